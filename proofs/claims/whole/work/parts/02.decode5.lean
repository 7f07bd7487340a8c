theorem dX0_init_0 : decode cX0_init 0 = .ok (.aload_n 0, 1) := by decide +kernel
theorem dX0_init_1 : decode cX0_init 1 = .ok (.invokespecial 3, 3) := by decide +kernel
theorem dX0_init_4 : decode cX0_init 4 = .ok (.aload_n 0, 1) := by decide +kernel
theorem dX0_init_5 : decode cX0_init 5 = .ok (.new 9, 3) := by decide +kernel
theorem dX0_init_8 : decode cX0_init 8 = .ok (.dup, 1) := by decide +kernel
theorem dX0_init_9 : decode cX0_init 9 = .ok (.bipush 8, 2) := by decide +kernel
theorem dX0_init_11 : decode cX0_init 11 = .ok (.invokespecial 11, 3) := by decide +kernel
theorem dX0_init_14 : decode cX0_init 14 = .ok (.putfield 14, 3) := by decide +kernel
theorem dX0_init_17 : decode cX0_init 17 = .ok (.aload_n 0, 1) := by decide +kernel
theorem dX0_init_18 : decode cX0_init 18 = .ok (.new 9, 3) := by decide +kernel
theorem dX0_init_21 : decode cX0_init 21 = .ok (.dup, 1) := by decide +kernel
theorem dX0_init_22 : decode cX0_init 22 = .ok (.bipush 30, 2) := by decide +kernel
theorem dX0_init_24 : decode cX0_init 24 = .ok (.invokespecial 11, 3) := by decide +kernel
theorem dX0_init_27 : decode cX0_init 27 = .ok (.putfield 20, 3) := by decide +kernel
theorem dX0_init_30 : decode cX0_init 30 = .ok (.aload_n 0, 1) := by decide +kernel
theorem dX0_init_31 : decode cX0_init 31 = .ok (.iload_n 1, 1) := by decide +kernel
theorem dX0_init_32 : decode cX0_init 32 = .ok (.putfield 23, 3) := by decide +kernel
theorem dX0_init_35 : decode cX0_init 35 = .ok (.aload_n 0, 1) := by decide +kernel
theorem dX0_init_36 : decode cX0_init 36 = .ok (.iload_n 2, 1) := by decide +kernel
theorem dX0_init_37 : decode cX0_init 37 = .ok (.putfield 27, 3) := by decide +kernel
theorem dX0_init_40 : decode cX0_init 40 = .ok (.return_, 1) := by decide +kernel
theorem dX1_init_0 : decode cX1_init 0 = .ok (.aload_n 0, 1) := by decide +kernel
theorem dX1_init_1 : decode cX1_init 1 = .ok (.invokespecial 3, 3) := by decide +kernel
theorem dX1_init_4 : decode cX1_init 4 = .ok (.aload_n 0, 1) := by decide +kernel
theorem dX1_init_5 : decode cX1_init 5 = .ok (.new 9, 3) := by decide +kernel
theorem dX1_init_8 : decode cX1_init 8 = .ok (.dup, 1) := by decide +kernel
theorem dX1_init_9 : decode cX1_init 9 = .ok (.iconst 3, 1) := by decide +kernel
theorem dX1_init_10 : decode cX1_init 10 = .ok (.invokespecial 11, 3) := by decide +kernel
theorem dX1_init_13 : decode cX1_init 13 = .ok (.putfield 14, 3) := by decide +kernel
theorem dX1_init_16 : decode cX1_init 16 = .ok (.aload_n 0, 1) := by decide +kernel
theorem dX1_init_17 : decode cX1_init 17 = .ok (.sipush (-1000), 3) := by decide +kernel
theorem dX1_init_20 : decode cX1_init 20 = .ok (.putfield 20, 3) := by decide +kernel
theorem dX1_init_23 : decode cX1_init 23 = .ok (.return_, 1) := by decide +kernel
theorem dX2_init_0 : decode cX2_init 0 = .ok (.aload_n 0, 1) := by decide +kernel
theorem dX2_init_1 : decode cX2_init 1 = .ok (.invokespecial 3, 3) := by decide +kernel
theorem dX2_init_4 : decode cX2_init 4 = .ok (.aload_n 0, 1) := by decide +kernel
theorem dX2_init_5 : decode cX2_init 5 = .ok (.iconst 0, 1) := by decide +kernel
theorem dX2_init_6 : decode cX2_init 6 = .ok (.putfield 9, 3) := by decide +kernel
theorem dX2_init_9 : decode cX2_init 9 = .ok (.aload_n 0, 1) := by decide +kernel
theorem dX2_init_10 : decode cX2_init 10 = .ok (.iload_n 1, 1) := by decide +kernel
theorem dX2_init_11 : decode cX2_init 11 = .ok (.iconst 0, 1) := by decide +kernel
theorem dX2_init_12 : decode cX2_init 12 = .ok (.invokestatic 15, 3) := by decide +kernel
theorem dX2_init_15 : decode cX2_init 15 = .ok (.anewarray 21, 3) := by decide +kernel
theorem dX2_init_18 : decode cX2_init 18 = .ok (.putfield 23, 3) := by decide +kernel
theorem dX2_init_21 : decode cX2_init 21 = .ok (.return_, 1) := by decide +kernel
theorem dX2_isFull_0 : decode cX2_isFull 0 = .ok (.aload_n 0, 1) := by decide +kernel
theorem dX2_isFull_1 : decode cX2_isFull 1 = .ok (.getfield 9, 3) := by decide +kernel
theorem dX2_isFull_4 : decode cX2_isFull 4 = .ok (.aload_n 0, 1) := by decide +kernel
theorem dX2_isFull_5 : decode cX2_isFull 5 = .ok (.getfield 23, 3) := by decide +kernel
theorem dX2_isFull_8 : decode cX2_isFull 8 = .ok (.arraylength, 1) := by decide +kernel
theorem dX2_isFull_9 : decode cX2_isFull 9 = .ok (.if_icmp .lt 7, 3) := by decide +kernel
theorem dX2_isFull_12 : decode cX2_isFull 12 = .ok (.iconst 1, 1) := by decide +kernel
theorem dX2_isFull_13 : decode cX2_isFull 13 = .ok (.goto 4, 3) := by decide +kernel
theorem dX2_isFull_16 : decode cX2_isFull 16 = .ok (.iconst 0, 1) := by decide +kernel
theorem dX2_isFull_17 : decode cX2_isFull 17 = .ok (.ireturn, 1) := by decide +kernel
theorem dX2_add_0 : decode cX2_add 0 = .ok (.aload_n 0, 1) := by decide +kernel
theorem dX2_add_1 : decode cX2_add 1 = .ok (.getfield 9, 3) := by decide +kernel
theorem dX2_add_4 : decode cX2_add 4 = .ok (.aload_n 0, 1) := by decide +kernel
theorem dX2_add_5 : decode cX2_add 5 = .ok (.getfield 23, 3) := by decide +kernel
theorem dX2_add_8 : decode cX2_add 8 = .ok (.arraylength, 1) := by decide +kernel
theorem dX2_add_9 : decode cX2_add 9 = .ok (.if_icmp .ge 23, 3) := by decide +kernel
theorem dX2_add_12 : decode cX2_add 12 = .ok (.aload_n 0, 1) := by decide +kernel
theorem dX2_add_13 : decode cX2_add 13 = .ok (.getfield 23, 3) := by decide +kernel
theorem dX2_add_16 : decode cX2_add 16 = .ok (.aload_n 0, 1) := by decide +kernel
theorem dX2_add_17 : decode cX2_add 17 = .ok (.getfield 9, 3) := by decide +kernel
theorem dX2_add_20 : decode cX2_add 20 = .ok (.aload_n 1, 1) := by decide +kernel
theorem dX2_add_21 : decode cX2_add 21 = .ok (.aastore, 1) := by decide +kernel
theorem dX2_add_22 : decode cX2_add 22 = .ok (.aload_n 0, 1) := by decide +kernel
theorem dX2_add_23 : decode cX2_add 23 = .ok (.dup, 1) := by decide +kernel
theorem dX2_add_24 : decode cX2_add 24 = .ok (.getfield 9, 3) := by decide +kernel
theorem dX2_add_27 : decode cX2_add 27 = .ok (.iconst 1, 1) := by decide +kernel
theorem dX2_add_28 : decode cX2_add 28 = .ok (.iadd, 1) := by decide +kernel
theorem dX2_add_29 : decode cX2_add 29 = .ok (.putfield 9, 3) := by decide +kernel
theorem dX2_add_32 : decode cX2_add 32 = .ok (.return_, 1) := by decide +kernel
theorem dX2_at_0 : decode cX2_at 0 = .ok (.iload_n 1, 1) := by decide +kernel
theorem dX2_at_1 : decode cX2_at 1 = .ok (.ifCond .lt 20, 3) := by decide +kernel
theorem dX2_at_4 : decode cX2_at 4 = .ok (.iload_n 1, 1) := by decide +kernel
theorem dX2_at_5 : decode cX2_at 5 = .ok (.aload_n 0, 1) := by decide +kernel
theorem dX2_at_6 : decode cX2_at 6 = .ok (.getfield 9, 3) := by decide +kernel
theorem dX2_at_9 : decode cX2_at 9 = .ok (.if_icmp .ge 12, 3) := by decide +kernel
theorem dX2_at_12 : decode cX2_at 12 = .ok (.aload_n 0, 1) := by decide +kernel
theorem dX2_at_13 : decode cX2_at 13 = .ok (.getfield 23, 3) := by decide +kernel
theorem dX2_at_16 : decode cX2_at 16 = .ok (.iload_n 1, 1) := by decide +kernel
theorem dX2_at_17 : decode cX2_at 17 = .ok (.aaload, 1) := by decide +kernel
theorem dX2_at_18 : decode cX2_at 18 = .ok (.goto 4, 3) := by decide +kernel
theorem dX2_at_21 : decode cX2_at 21 = .ok (.aconst_null, 1) := by decide +kernel
theorem dX2_at_22 : decode cX2_at 22 = .ok (.areturn, 1) := by decide +kernel
theorem dX2_numberAt_0 : decode cX2_numberAt 0 = .ok (.aload_n 0, 1) := by decide +kernel
theorem dX2_numberAt_1 : decode cX2_numberAt 1 = .ok (.iload_n 1, 1) := by decide +kernel
theorem dX2_numberAt_2 : decode cX2_numberAt 2 = .ok (.invokevirtual 27, 3) := by decide +kernel
theorem dX2_numberAt_5 : decode cX2_numberAt 5 = .ok (.astore_n 2, 1) := by decide +kernel
theorem dX2_numberAt_6 : decode cX2_numberAt 6 = .ok (.aload_n 2, 1) := by decide +kernel
theorem dX2_numberAt_7 : decode cX2_numberAt 7 = .ok (.ifnonnull 8, 3) := by decide +kernel
theorem dX2_numberAt_10 : decode cX2_numberAt 10 = .ok (.bipush (-4), 2) := by decide +kernel
theorem dX2_numberAt_12 : decode cX2_numberAt 12 = .ok (.goto 7, 3) := by decide +kernel
theorem dX2_numberAt_15 : decode cX2_numberAt 15 = .ok (.aload_n 2, 1) := by decide +kernel
theorem dX2_numberAt_16 : decode cX2_numberAt 16 = .ok (.getfield 31, 3) := by decide +kernel
theorem dX2_numberAt_19 : decode cX2_numberAt 19 = .ok (.ireturn, 1) := by decide +kernel
theorem dX2_hasAground_0 : decode cX2_hasAground 0 = .ok (.iconst 0, 1) := by decide +kernel
theorem dX2_hasAground_1 : decode cX2_hasAground 1 = .ok (.istore_n 2, 1) := by decide +kernel
theorem dX2_hasAground_2 : decode cX2_hasAground 2 = .ok (.iload_n 2, 1) := by decide +kernel
theorem dX2_hasAground_3 : decode cX2_hasAground 3 = .ok (.aload_n 0, 1) := by decide +kernel
theorem dX2_hasAground_4 : decode cX2_hasAground 4 = .ok (.getfield 9, 3) := by decide +kernel
theorem dX2_hasAground_7 : decode cX2_hasAground 7 = .ok (.if_icmp .ge 29, 3) := by decide +kernel
theorem dX2_hasAground_10 : decode cX2_hasAground 10 = .ok (.aload_n 0, 1) := by decide +kernel
theorem dX2_hasAground_11 : decode cX2_hasAground 11 = .ok (.iload_n 2, 1) := by decide +kernel
theorem dX2_hasAground_12 : decode cX2_hasAground 12 = .ok (.invokevirtual 27, 3) := by decide +kernel
theorem dX2_hasAground_15 : decode cX2_hasAground 15 = .ok (.astore_n 3, 1) := by decide +kernel
theorem dX2_hasAground_16 : decode cX2_hasAground 16 = .ok (.aload_n 3, 1) := by decide +kernel
theorem dX2_hasAground_17 : decode cX2_hasAground 17 = .ok (.ifnull 13, 3) := by decide +kernel
theorem dX2_hasAground_20 : decode cX2_hasAground 20 = .ok (.aload_n 3, 1) := by decide +kernel
theorem dX2_hasAground_21 : decode cX2_hasAground 21 = .ok (.iload_n 1, 1) := by decide +kernel
theorem dX2_hasAground_22 : decode cX2_hasAground 22 = .ok (.invokevirtual 34, 3) := by decide +kernel
theorem dX2_hasAground_25 : decode cX2_hasAground 25 = .ok (.ifCond .eq 5, 3) := by decide +kernel
theorem dX2_hasAground_28 : decode cX2_hasAground 28 = .ok (.iconst 1, 1) := by decide +kernel
theorem dX2_hasAground_29 : decode cX2_hasAground 29 = .ok (.ireturn, 1) := by decide +kernel
theorem dX2_hasAground_30 : decode cX2_hasAground 30 = .ok (.iinc 2 1, 3) := by decide +kernel
theorem dX2_hasAground_33 : decode cX2_hasAground 33 = .ok (.goto (-31), 3) := by decide +kernel
theorem dX2_hasAground_36 : decode cX2_hasAground 36 = .ok (.iconst 0, 1) := by decide +kernel
theorem dX2_hasAground_37 : decode cX2_hasAground 37 = .ok (.ireturn, 1) := by decide +kernel
theorem dX2_removeFirst_0 : decode cX2_removeFirst 0 = .ok (.aload_n 0, 1) := by decide +kernel
theorem dX2_removeFirst_1 : decode cX2_removeFirst 1 = .ok (.getfield 9, 3) := by decide +kernel
theorem dX2_removeFirst_4 : decode cX2_removeFirst 4 = .ok (.ifCond .ne 4, 3) := by decide +kernel
theorem dX2_removeFirst_7 : decode cX2_removeFirst 7 = .ok (.return_, 1) := by decide +kernel
theorem dX2_removeFirst_8 : decode cX2_removeFirst 8 = .ok (.iconst 1, 1) := by decide +kernel
theorem dX2_removeFirst_9 : decode cX2_removeFirst 9 = .ok (.istore_n 1, 1) := by decide +kernel
theorem dX2_removeFirst_10 : decode cX2_removeFirst 10 = .ok (.iload_n 1, 1) := by decide +kernel
theorem dX2_removeFirst_11 : decode cX2_removeFirst 11 = .ok (.aload_n 0, 1) := by decide +kernel
theorem dX2_removeFirst_12 : decode cX2_removeFirst 12 = .ok (.getfield 9, 3) := by decide +kernel
theorem dX2_removeFirst_15 : decode cX2_removeFirst 15 = .ok (.if_icmp .ge 23, 3) := by decide +kernel
theorem dX2_removeFirst_18 : decode cX2_removeFirst 18 = .ok (.aload_n 0, 1) := by decide +kernel
theorem dX2_removeFirst_19 : decode cX2_removeFirst 19 = .ok (.getfield 23, 3) := by decide +kernel
theorem dX2_removeFirst_22 : decode cX2_removeFirst 22 = .ok (.iload_n 1, 1) := by decide +kernel
theorem dX2_removeFirst_23 : decode cX2_removeFirst 23 = .ok (.iconst 1, 1) := by decide +kernel
theorem dX2_removeFirst_24 : decode cX2_removeFirst 24 = .ok (.isub, 1) := by decide +kernel
theorem dX2_removeFirst_25 : decode cX2_removeFirst 25 = .ok (.aload_n 0, 1) := by decide +kernel
theorem dX2_removeFirst_26 : decode cX2_removeFirst 26 = .ok (.getfield 23, 3) := by decide +kernel
theorem dX2_removeFirst_29 : decode cX2_removeFirst 29 = .ok (.iload_n 1, 1) := by decide +kernel
theorem dX2_removeFirst_30 : decode cX2_removeFirst 30 = .ok (.aaload, 1) := by decide +kernel
theorem dX2_removeFirst_31 : decode cX2_removeFirst 31 = .ok (.aastore, 1) := by decide +kernel
theorem dX2_removeFirst_32 : decode cX2_removeFirst 32 = .ok (.iinc 1 1, 3) := by decide +kernel
theorem dX2_removeFirst_35 : decode cX2_removeFirst 35 = .ok (.goto (-25), 3) := by decide +kernel
theorem dX2_removeFirst_38 : decode cX2_removeFirst 38 = .ok (.aload_n 0, 1) := by decide +kernel
theorem dX2_removeFirst_39 : decode cX2_removeFirst 39 = .ok (.dup, 1) := by decide +kernel
theorem dX2_removeFirst_40 : decode cX2_removeFirst 40 = .ok (.getfield 9, 3) := by decide +kernel
theorem dX2_removeFirst_43 : decode cX2_removeFirst 43 = .ok (.iconst 1, 1) := by decide +kernel
theorem dX2_removeFirst_44 : decode cX2_removeFirst 44 = .ok (.isub, 1) := by decide +kernel
theorem dX2_removeFirst_45 : decode cX2_removeFirst 45 = .ok (.putfield 9, 3) := by decide +kernel
theorem dX2_removeFirst_48 : decode cX2_removeFirst 48 = .ok (.aload_n 0, 1) := by decide +kernel
theorem dX2_removeFirst_49 : decode cX2_removeFirst 49 = .ok (.getfield 23, 3) := by decide +kernel
theorem dX2_removeFirst_52 : decode cX2_removeFirst 52 = .ok (.aload_n 0, 1) := by decide +kernel
theorem dX2_removeFirst_53 : decode cX2_removeFirst 53 = .ok (.getfield 9, 3) := by decide +kernel
theorem dX2_removeFirst_56 : decode cX2_removeFirst 56 = .ok (.aconst_null, 1) := by decide +kernel
theorem dX2_removeFirst_57 : decode cX2_removeFirst 57 = .ok (.aastore, 1) := by decide +kernel
theorem dX2_removeFirst_58 : decode cX2_removeFirst 58 = .ok (.return_, 1) := by decide +kernel
theorem dX3_init_0 : decode cX3_init 0 = .ok (.aload_n 0, 1) := by decide +kernel
theorem dX3_init_1 : decode cX3_init 1 = .ok (.invokespecial 3, 3) := by decide +kernel
theorem dX3_init_4 : decode cX3_init 4 = .ok (.aload_n 0, 1) := by decide +kernel
theorem dX3_init_5 : decode cX3_init 5 = .ok (.bipush 20, 2) := by decide +kernel
theorem dX3_init_7 : decode cX3_init 7 = .ok (.putfield 9, 3) := by decide +kernel
theorem dX3_init_10 : decode cX3_init 10 = .ok (.aload_n 0, 1) := by decide +kernel
theorem dX3_init_11 : decode cX3_init 11 = .ok (.bipush 15, 2) := by decide +kernel
theorem dX3_init_13 : decode cX3_init 13 = .ok (.putfield 15, 3) := by decide +kernel
theorem dX3_init_16 : decode cX3_init 16 = .ok (.aload_n 0, 1) := by decide +kernel
theorem dX3_init_17 : decode cX3_init 17 = .ok (.iconst 0, 1) := by decide +kernel
theorem dX3_init_18 : decode cX3_init 18 = .ok (.putfield 18, 3) := by decide +kernel
theorem dX3_init_21 : decode cX3_init 21 = .ok (.aload_n 0, 1) := by decide +kernel
theorem dX3_init_22 : decode cX3_init 22 = .ok (.new 22, 3) := by decide +kernel
theorem dX3_init_25 : decode cX3_init 25 = .ok (.dup, 1) := by decide +kernel
theorem dX3_init_26 : decode cX3_init 26 = .ok (.invokespecial 24, 3) := by decide +kernel
theorem dX3_init_29 : decode cX3_init 29 = .ok (.putfield 25, 3) := by decide +kernel
theorem dX3_init_32 : decode cX3_init 32 = .ok (.aload_n 0, 1) := by decide +kernel
theorem dX3_init_33 : decode cX3_init 33 = .ok (.new 22, 3) := by decide +kernel
theorem dX3_init_36 : decode cX3_init 36 = .ok (.dup, 1) := by decide +kernel
theorem dX3_init_37 : decode cX3_init 37 = .ok (.invokespecial 24, 3) := by decide +kernel
theorem dX3_init_40 : decode cX3_init 40 = .ok (.putfield 29, 3) := by decide +kernel
theorem dX3_init_43 : decode cX3_init 43 = .ok (.aload_n 0, 1) := by decide +kernel
theorem dX3_init_44 : decode cX3_init 44 = .ok (.iload_n 1, 1) := by decide +kernel
theorem dX3_init_45 : decode cX3_init 45 = .ok (.putfield 32, 3) := by decide +kernel
theorem dX3_init_48 : decode cX3_init 48 = .ok (.return_, 1) := by decide +kernel
theorem dX3_lane_0 : decode cX3_lane 0 = .ok (.iload_n 1, 1) := by decide +kernel
theorem dX3_lane_1 : decode cX3_lane 1 = .ok (.ifCond .ne 10, 3) := by decide +kernel
theorem dX3_lane_4 : decode cX3_lane 4 = .ok (.aload_n 0, 1) := by decide +kernel
theorem dX3_lane_5 : decode cX3_lane 5 = .ok (.getfield 25, 3) := by decide +kernel
theorem dX3_lane_8 : decode cX3_lane 8 = .ok (.goto 7, 3) := by decide +kernel
theorem dX3_lane_11 : decode cX3_lane 11 = .ok (.aload_n 0, 1) := by decide +kernel
theorem dX3_lane_12 : decode cX3_lane 12 = .ok (.getfield 29, 3) := by decide +kernel
theorem dX3_lane_15 : decode cX3_lane 15 = .ok (.areturn, 1) := by decide +kernel
theorem dX3_waysInside_0 : decode cX3_waysInside 0 = .ok (.aload_n 0, 1) := by decide +kernel
theorem dX3_waysInside_1 : decode cX3_waysInside 1 = .ok (.getfield 25, 3) := by decide +kernel
theorem dX3_waysInside_4 : decode cX3_waysInside 4 = .ok (.getfield 35, 3) := by decide +kernel
theorem dX3_waysInside_7 : decode cX3_waysInside 7 = .ok (.getfield 39, 3) := by decide +kernel
theorem dX3_waysInside_10 : decode cX3_waysInside 10 = .ok (.ifCond .le 7, 3) := by decide +kernel
theorem dX3_waysInside_13 : decode cX3_waysInside 13 = .ok (.iconst 1, 1) := by decide +kernel
theorem dX3_waysInside_14 : decode cX3_waysInside 14 = .ok (.goto 4, 3) := by decide +kernel
theorem dX3_waysInside_17 : decode cX3_waysInside 17 = .ok (.iconst 0, 1) := by decide +kernel
theorem dX3_waysInside_18 : decode cX3_waysInside 18 = .ok (.aload_n 0, 1) := by decide +kernel
theorem dX3_waysInside_19 : decode cX3_waysInside 19 = .ok (.getfield 29, 3) := by decide +kernel
theorem dX3_waysInside_22 : decode cX3_waysInside 22 = .ok (.getfield 35, 3) := by decide +kernel
theorem dX3_waysInside_25 : decode cX3_waysInside 25 = .ok (.getfield 39, 3) := by decide +kernel
theorem dX3_waysInside_28 : decode cX3_waysInside 28 = .ok (.ifCond .le 7, 3) := by decide +kernel
theorem dX3_waysInside_31 : decode cX3_waysInside 31 = .ok (.iconst 1, 1) := by decide +kernel
theorem dX3_waysInside_32 : decode cX3_waysInside 32 = .ok (.goto 4, 3) := by decide +kernel
theorem dX3_waysInside_35 : decode cX3_waysInside 35 = .ok (.iconst 0, 1) := by decide +kernel
theorem dX3_waysInside_36 : decode cX3_waysInside 36 = .ok (.iadd, 1) := by decide +kernel
theorem dX3_waysInside_37 : decode cX3_waysInside 37 = .ok (.ireturn, 1) := by decide +kernel
theorem dX4_init_0 : decode cX4_init 0 = .ok (.aload_n 0, 1) := by decide +kernel
theorem dX4_init_1 : decode cX4_init 1 = .ok (.invokespecial 3, 3) := by decide +kernel
theorem dX4_init_4 : decode cX4_init 4 = .ok (.aload_n 0, 1) := by decide +kernel
theorem dX4_init_5 : decode cX4_init 5 = .ok (.bipush 7, 2) := by decide +kernel
theorem dX4_init_7 : decode cX4_init 7 = .ok (.newarray .int, 2) := by decide +kernel
theorem dX4_init_9 : decode cX4_init 9 = .ok (.putfield 9, 3) := by decide +kernel
theorem dX4_init_12 : decode cX4_init 12 = .ok (.aload_n 0, 1) := by decide +kernel
theorem dX4_init_13 : decode cX4_init 13 = .ok (.iconst (-1), 1) := by decide +kernel
theorem dX4_init_14 : decode cX4_init 14 = .ok (.putfield 15, 3) := by decide +kernel
theorem dX4_init_17 : decode cX4_init 17 = .ok (.aload_n 0, 1) := by decide +kernel
theorem dX4_init_18 : decode cX4_init 18 = .ok (.iconst 0, 1) := by decide +kernel
theorem dX4_init_19 : decode cX4_init 19 = .ok (.putfield 19, 3) := by decide +kernel
theorem dX4_init_22 : decode cX4_init 22 = .ok (.aload_n 0, 1) := by decide +kernel
theorem dX4_init_23 : decode cX4_init 23 = .ok (.iconst 0, 1) := by decide +kernel
theorem dX4_init_24 : decode cX4_init 24 = .ok (.putfield 22, 3) := by decide +kernel
theorem dX4_init_27 : decode cX4_init 27 = .ok (.aload_n 0, 1) := by decide +kernel
theorem dX4_init_28 : decode cX4_init 28 = .ok (.iconst 0, 1) := by decide +kernel
theorem dX4_init_29 : decode cX4_init 29 = .ok (.putfield 26, 3) := by decide +kernel
theorem dX4_init_32 : decode cX4_init 32 = .ok (.aload_n 0, 1) := by decide +kernel
theorem dX4_init_33 : decode cX4_init 33 = .ok (.bipush (-4), 2) := by decide +kernel
theorem dX4_init_35 : decode cX4_init 35 = .ok (.putfield 29, 3) := by decide +kernel
theorem dX4_init_38 : decode cX4_init 38 = .ok (.aload_n 0, 1) := by decide +kernel
theorem dX4_init_39 : decode cX4_init 39 = .ok (.bipush (-4), 2) := by decide +kernel
theorem dX4_init_41 : decode cX4_init 41 = .ok (.putfield 32, 3) := by decide +kernel
theorem dX4_init_44 : decode cX4_init 44 = .ok (.aload_n 0, 1) := by decide +kernel
theorem dX4_init_45 : decode cX4_init 45 = .ok (.bipush (-4), 2) := by decide +kernel
theorem dX4_init_47 : decode cX4_init 47 = .ok (.putfield 35, 3) := by decide +kernel
theorem dX4_init_50 : decode cX4_init 50 = .ok (.aload_n 0, 1) := by decide +kernel
theorem dX4_init_51 : decode cX4_init 51 = .ok (.iconst 0, 1) := by decide +kernel
theorem dX4_init_52 : decode cX4_init 52 = .ok (.putfield 38, 3) := by decide +kernel
theorem dX4_init_55 : decode cX4_init 55 = .ok (.aload_n 0, 1) := by decide +kernel
theorem dX4_init_56 : decode cX4_init 56 = .ok (.iload_n 1, 1) := by decide +kernel
theorem dX4_init_57 : decode cX4_init 57 = .ok (.putfield 41, 3) := by decide +kernel
theorem dX4_init_60 : decode cX4_init 60 = .ok (.aload_n 0, 1) := by decide +kernel
theorem dX4_init_61 : decode cX4_init 61 = .ok (.iload_n 2, 1) := by decide +kernel
theorem dX4_init_62 : decode cX4_init 62 = .ok (.putfield 44, 3) := by decide +kernel
theorem dX4_init_65 : decode cX4_init 65 = .ok (.aload_n 0, 1) := by decide +kernel
theorem dX4_init_66 : decode cX4_init 66 = .ok (.iload_n 3, 1) := by decide +kernel
theorem dX4_init_67 : decode cX4_init 67 = .ok (.putfield 47, 3) := by decide +kernel
theorem dX4_init_70 : decode cX4_init 70 = .ok (.aload_n 0, 1) := by decide +kernel
theorem dX4_init_71 : decode cX4_init 71 = .ok (.iload 4, 2) := by decide +kernel
theorem dX4_init_73 : decode cX4_init 73 = .ok (.putfield 50, 3) := by decide +kernel
theorem dX4_init_76 : decode cX4_init 76 = .ok (.aload_n 0, 1) := by decide +kernel
theorem dX4_init_77 : decode cX4_init 77 = .ok (.iload 5, 2) := by decide +kernel
theorem dX4_init_79 : decode cX4_init 79 = .ok (.putfield 53, 3) := by decide +kernel
theorem dX4_init_82 : decode cX4_init 82 = .ok (.aload_n 0, 1) := by decide +kernel
theorem dX4_init_83 : decode cX4_init 83 = .ok (.iload 6, 2) := by decide +kernel
theorem dX4_init_85 : decode cX4_init 85 = .ok (.putfield 56, 3) := by decide +kernel
theorem dX4_init_88 : decode cX4_init 88 = .ok (.aload_n 0, 1) := by decide +kernel
theorem dX4_init_89 : decode cX4_init 89 = .ok (.iload 7, 2) := by decide +kernel
theorem dX4_init_91 : decode cX4_init 91 = .ok (.putfield 59, 3) := by decide +kernel
theorem dX4_init_94 : decode cX4_init 94 = .ok (.return_, 1) := by decide +kernel
theorem dX4_isInSection_0 : decode cX4_isInSection 0 = .ok (.aload_n 0, 1) := by decide +kernel
theorem dX4_isInSection_1 : decode cX4_isInSection 1 = .ok (.getfield 15, 3) := by decide +kernel
theorem dX4_isInSection_4 : decode cX4_isInSection 4 = .ok (.iconst (-1), 1) := by decide +kernel
theorem dX4_isInSection_5 : decode cX4_isInSection 5 = .ok (.if_icmp .eq 16, 3) := by decide +kernel
theorem dX4_isInSection_8 : decode cX4_isInSection 8 = .ok (.aload_n 0, 1) := by decide +kernel
theorem dX4_isInSection_9 : decode cX4_isInSection 9 = .ok (.getfield 15, 3) := by decide +kernel
theorem dX4_isInSection_12 : decode cX4_isInSection 12 = .ok (.bipush 8, 2) := by decide +kernel
theorem dX4_isInSection_14 : decode cX4_isInSection 14 = .ok (.if_icmp .eq 7, 3) := by decide +kernel
theorem dX4_isInSection_17 : decode cX4_isInSection 17 = .ok (.iconst 1, 1) := by decide +kernel
theorem dX4_isInSection_18 : decode cX4_isInSection 18 = .ok (.goto 4, 3) := by decide +kernel
theorem dX4_isInSection_21 : decode cX4_isInSection 21 = .ok (.iconst 0, 1) := by decide +kernel
theorem dX4_isInSection_22 : decode cX4_isInSection 22 = .ok (.ireturn, 1) := by decide +kernel
theorem dX4_isAground_0 : decode cX4_isAground 0 = .ok (.aload_n 0, 1) := by decide +kernel
theorem dX4_isAground_1 : decode cX4_isAground 1 = .ok (.getfield 38, 3) := by decide +kernel
theorem dX4_isAground_4 : decode cX4_isAground 4 = .ok (.iload_n 1, 1) := by decide +kernel
theorem dX4_isAground_5 : decode cX4_isAground 5 = .ok (.if_icmp .le 7, 3) := by decide +kernel
theorem dX4_isAground_8 : decode cX4_isAground 8 = .ok (.iconst 1, 1) := by decide +kernel
theorem dX4_isAground_9 : decode cX4_isAground 9 = .ok (.goto 4, 3) := by decide +kernel
theorem dX4_isAground_12 : decode cX4_isAground 12 = .ok (.iconst 0, 1) := by decide +kernel
theorem dX4_isAground_13 : decode cX4_isAground 13 = .ok (.ireturn, 1) := by decide +kernel
theorem dX4_waitBy_0 : decode cX4_waitBy 0 = .ok (.iload_n 1, 1) := by decide +kernel
theorem dX4_waitBy_1 : decode cX4_waitBy 1 = .ok (.ifCond .lt 19, 3) := by decide +kernel
theorem dX4_waitBy_4 : decode cX4_waitBy 4 = .ok (.iload_n 1, 1) := by decide +kernel
theorem dX4_waitBy_5 : decode cX4_waitBy 5 = .ok (.bipush 7, 2) := by decide +kernel
theorem dX4_waitBy_7 : decode cX4_waitBy 7 = .ok (.if_icmp .ge 13, 3) := by decide +kernel
theorem dX4_waitBy_10 : decode cX4_waitBy 10 = .ok (.aload_n 0, 1) := by decide +kernel
theorem dX4_waitBy_11 : decode cX4_waitBy 11 = .ok (.getfield 9, 3) := by decide +kernel
theorem dX4_waitBy_14 : decode cX4_waitBy 14 = .ok (.iload_n 1, 1) := by decide +kernel
theorem dX4_waitBy_15 : decode cX4_waitBy 15 = .ok (.dup2, 1) := by decide +kernel
theorem dX4_waitBy_16 : decode cX4_waitBy 16 = .ok (.iaload, 1) := by decide +kernel
theorem dX4_waitBy_17 : decode cX4_waitBy 17 = .ok (.iconst 1, 1) := by decide +kernel
theorem dX4_waitBy_18 : decode cX4_waitBy 18 = .ok (.iadd, 1) := by decide +kernel
theorem dX4_waitBy_19 : decode cX4_waitBy 19 = .ok (.iastore, 1) := by decide +kernel
theorem dX4_waitBy_20 : decode cX4_waitBy 20 = .ok (.return_, 1) := by decide +kernel
theorem dX4_waitedInAll_0 : decode cX4_waitedInAll 0 = .ok (.iconst 0, 1) := by decide +kernel
theorem dX4_waitedInAll_1 : decode cX4_waitedInAll 1 = .ok (.istore_n 1, 1) := by decide +kernel
theorem dX4_waitedInAll_2 : decode cX4_waitedInAll 2 = .ok (.iconst 0, 1) := by decide +kernel
theorem dX4_waitedInAll_3 : decode cX4_waitedInAll 3 = .ok (.istore_n 2, 1) := by decide +kernel
theorem dX4_waitedInAll_4 : decode cX4_waitedInAll 4 = .ok (.iload_n 2, 1) := by decide +kernel
theorem dX4_waitedInAll_5 : decode cX4_waitedInAll 5 = .ok (.bipush 7, 2) := by decide +kernel
theorem dX4_waitedInAll_7 : decode cX4_waitedInAll 7 = .ok (.if_icmp .ge 18, 3) := by decide +kernel
theorem dX4_waitedInAll_10 : decode cX4_waitedInAll 10 = .ok (.iload_n 1, 1) := by decide +kernel
theorem dX4_waitedInAll_11 : decode cX4_waitedInAll 11 = .ok (.aload_n 0, 1) := by decide +kernel
theorem dX4_waitedInAll_12 : decode cX4_waitedInAll 12 = .ok (.getfield 9, 3) := by decide +kernel
theorem dX4_waitedInAll_15 : decode cX4_waitedInAll 15 = .ok (.iload_n 2, 1) := by decide +kernel
theorem dX4_waitedInAll_16 : decode cX4_waitedInAll 16 = .ok (.iaload, 1) := by decide +kernel
theorem dX4_waitedInAll_17 : decode cX4_waitedInAll 17 = .ok (.iadd, 1) := by decide +kernel
theorem dX4_waitedInAll_18 : decode cX4_waitedInAll 18 = .ok (.istore_n 1, 1) := by decide +kernel
theorem dX4_waitedInAll_19 : decode cX4_waitedInAll 19 = .ok (.iinc 2 1, 3) := by decide +kernel
theorem dX4_waitedInAll_22 : decode cX4_waitedInAll 22 = .ok (.goto (-18), 3) := by decide +kernel
theorem dX4_waitedInAll_25 : decode cX4_waitedInAll 25 = .ok (.iload_n 1, 1) := by decide +kernel
theorem dX4_waitedInAll_26 : decode cX4_waitedInAll 26 = .ok (.ireturn, 1) := by decide +kernel
theorem dX4_counts_0 : decode cX4_counts 0 = .ok (.iload_n 1, 1) := by decide +kernel
theorem dX4_counts_1 : decode cX4_counts 1 = .ok (.tableswitch 61 3 6 #[31, 46, 51, 56], 31) := by decide +kernel
theorem dX4_counts_32 : decode cX4_counts 32 = .ok (.aload_n 0, 1) := by decide +kernel
theorem dX4_counts_33 : decode cX4_counts 33 = .ok (.getfield 15, 3) := by decide +kernel
theorem dX4_counts_36 : decode cX4_counts 36 = .ok (.bipush 8, 2) := by decide +kernel
theorem dX4_counts_38 : decode cX4_counts 38 = .ok (.if_icmp .ne 7, 3) := by decide +kernel
theorem dX4_counts_41 : decode cX4_counts 41 = .ok (.iconst 1, 1) := by decide +kernel
theorem dX4_counts_42 : decode cX4_counts 42 = .ok (.goto 4, 3) := by decide +kernel
theorem dX4_counts_45 : decode cX4_counts 45 = .ok (.iconst 0, 1) := by decide +kernel
theorem dX4_counts_46 : decode cX4_counts 46 = .ok (.ireturn, 1) := by decide +kernel
theorem dX4_counts_47 : decode cX4_counts 47 = .ok (.aload_n 0, 1) := by decide +kernel
theorem dX4_counts_48 : decode cX4_counts 48 = .ok (.getfield 26, 3) := by decide +kernel
theorem dX4_counts_51 : decode cX4_counts 51 = .ok (.ireturn, 1) := by decide +kernel
theorem dX4_counts_52 : decode cX4_counts 52 = .ok (.aload_n 0, 1) := by decide +kernel
theorem dX4_counts_53 : decode cX4_counts 53 = .ok (.getfield 22, 3) := by decide +kernel
theorem dX4_counts_56 : decode cX4_counts 56 = .ok (.ireturn, 1) := by decide +kernel
theorem dX4_counts_57 : decode cX4_counts 57 = .ok (.aload_n 0, 1) := by decide +kernel
theorem dX4_counts_58 : decode cX4_counts 58 = .ok (.invokevirtual 62, 3) := by decide +kernel
theorem dX4_counts_61 : decode cX4_counts 61 = .ok (.ireturn, 1) := by decide +kernel
theorem dX4_counts_62 : decode cX4_counts 62 = .ok (.iconst 0, 1) := by decide +kernel
theorem dX4_counts_63 : decode cX4_counts 63 = .ok (.ireturn, 1) := by decide +kernel
theorem dX4_dues_0 : decode cX4_dues 0 = .ok (.aload_n 0, 1) := by decide +kernel
theorem dX4_dues_1 : decode cX4_dues 1 = .ok (.getfield 59, 3) := by decide +kernel
theorem dX4_dues_4 : decode cX4_dues 4 = .ok (.sipush 5000, 3) := by decide +kernel
theorem dX4_dues_7 : decode cX4_dues 7 = .ok (.invokestatic 66, 3) := by decide +kernel
theorem dX4_dues_10 : decode cX4_dues 10 = .ok (.istore_n 1, 1) := by decide +kernel
theorem dX4_dues_11 : decode cX4_dues 11 = .ok (.aload_n 0, 1) := by decide +kernel
theorem dX4_dues_12 : decode cX4_dues 12 = .ok (.getfield 59, 3) := by decide +kernel
theorem dX4_dues_15 : decode cX4_dues 15 = .ok (.iload_n 1, 1) := by decide +kernel
theorem dX4_dues_16 : decode cX4_dues 16 = .ok (.isub, 1) := by decide +kernel
theorem dX4_dues_17 : decode cX4_dues 17 = .ok (.sipush 15000, 3) := by decide +kernel
theorem dX4_dues_20 : decode cX4_dues 20 = .ok (.invokestatic 66, 3) := by decide +kernel
theorem dX4_dues_23 : decode cX4_dues 23 = .ok (.istore_n 2, 1) := by decide +kernel
theorem dX4_dues_24 : decode cX4_dues 24 = .ok (.iconst 3, 1) := by decide +kernel
theorem dX4_dues_25 : decode cX4_dues 25 = .ok (.iload_n 1, 1) := by decide +kernel
theorem dX4_dues_26 : decode cX4_dues 26 = .ok (.imul, 1) := by decide +kernel
theorem dX4_dues_27 : decode cX4_dues 27 = .ok (.iconst 2, 1) := by decide +kernel
theorem dX4_dues_28 : decode cX4_dues 28 = .ok (.iload_n 2, 1) := by decide +kernel
theorem dX4_dues_29 : decode cX4_dues 29 = .ok (.imul, 1) := by decide +kernel
theorem dX4_dues_30 : decode cX4_dues 30 = .ok (.iadd, 1) := by decide +kernel
theorem dX4_dues_31 : decode cX4_dues 31 = .ok (.aload_n 0, 1) := by decide +kernel
theorem dX4_dues_32 : decode cX4_dues 32 = .ok (.getfield 59, 3) := by decide +kernel
theorem dX4_dues_35 : decode cX4_dues 35 = .ok (.iload_n 1, 1) := by decide +kernel
theorem dX4_dues_36 : decode cX4_dues 36 = .ok (.isub, 1) := by decide +kernel
theorem dX4_dues_37 : decode cX4_dues 37 = .ok (.iload_n 2, 1) := by decide +kernel
theorem dX4_dues_38 : decode cX4_dues 38 = .ok (.isub, 1) := by decide +kernel
theorem dX4_dues_39 : decode cX4_dues 39 = .ok (.iadd, 1) := by decide +kernel
theorem dX4_dues_40 : decode cX4_dues 40 = .ok (.istore_n 3, 1) := by decide +kernel
theorem dX4_dues_41 : decode cX4_dues 41 = .ok (.aload_n 0, 1) := by decide +kernel
theorem dX4_dues_42 : decode cX4_dues 42 = .ok (.getfield 22, 3) := by decide +kernel
theorem dX4_dues_45 : decode cX4_dues 45 = .ok (.ifCond .eq 10, 3) := by decide +kernel
theorem dX4_dues_48 : decode cX4_dues 48 = .ok (.iload_n 3, 1) := by decide +kernel
theorem dX4_dues_49 : decode cX4_dues 49 = .ok (.iload_n 3, 1) := by decide +kernel
theorem dX4_dues_50 : decode cX4_dues 50 = .ok (.bipush 10, 2) := by decide +kernel
theorem dX4_dues_52 : decode cX4_dues 52 = .ok (.idiv, 1) := by decide +kernel
theorem dX4_dues_53 : decode cX4_dues 53 = .ok (.iadd, 1) := by decide +kernel
theorem dX4_dues_54 : decode cX4_dues 54 = .ok (.istore_n 3, 1) := by decide +kernel
theorem dX4_dues_55 : decode cX4_dues 55 = .ok (.aload_n 0, 1) := by decide +kernel
theorem dX4_dues_56 : decode cX4_dues 56 = .ok (.getfield 9, 3) := by decide +kernel
theorem dX4_dues_59 : decode cX4_dues 59 = .ok (.iconst 0, 1) := by decide +kernel
theorem dX4_dues_60 : decode cX4_dues 60 = .ok (.iaload, 1) := by decide +kernel
theorem dX4_dues_61 : decode cX4_dues 61 = .ok (.bipush 60, 2) := by decide +kernel
theorem dX4_dues_63 : decode cX4_dues 63 = .ok (.if_icmp .le 10, 3) := by decide +kernel
theorem dX4_dues_66 : decode cX4_dues 66 = .ok (.iload_n 3, 1) := by decide +kernel
theorem dX4_dues_67 : decode cX4_dues 67 = .ok (.iload_n 3, 1) := by decide +kernel
theorem dX4_dues_68 : decode cX4_dues 68 = .ok (.bipush 20, 2) := by decide +kernel
theorem dX4_dues_70 : decode cX4_dues 70 = .ok (.idiv, 1) := by decide +kernel
theorem dX4_dues_71 : decode cX4_dues 71 = .ok (.isub, 1) := by decide +kernel
theorem dX4_dues_72 : decode cX4_dues 72 = .ok (.istore_n 3, 1) := by decide +kernel
theorem dX4_dues_73 : decode cX4_dues 73 = .ok (.iload_n 3, 1) := by decide +kernel
theorem dX4_dues_74 : decode cX4_dues 74 = .ok (.ireturn, 1) := by decide +kernel
theorem dX5_init_0 : decode cX5_init 0 = .ok (.aload_n 0, 1) := by decide +kernel
theorem dX5_init_1 : decode cX5_init 1 = .ok (.invokespecial 3, 3) := by decide +kernel
theorem dX5_init_4 : decode cX5_init 4 = .ok (.aload_n 0, 1) := by decide +kernel
theorem dX5_init_5 : decode cX5_init 5 = .ok (.bipush 8, 2) := by decide +kernel
theorem dX5_init_7 : decode cX5_init 7 = .ok (.anewarray 9, 3) := by decide +kernel
theorem dX5_init_10 : decode cX5_init 10 = .ok (.putfield 11, 3) := by decide +kernel
theorem dX5_init_13 : decode cX5_init 13 = .ok (.aload_n 0, 1) := by decide +kernel
theorem dX5_init_14 : decode cX5_init 14 = .ok (.bipush 24, 2) := by decide +kernel
theorem dX5_init_16 : decode cX5_init 16 = .ok (.newarray .int, 2) := by decide +kernel
theorem dX5_init_18 : decode cX5_init 18 = .ok (.putfield 15, 3) := by decide +kernel
theorem dX5_init_21 : decode cX5_init 21 = .ok (.aload_n 0, 1) := by decide +kernel
theorem dX5_init_22 : decode cX5_init 22 = .ok (.bipush 24, 2) := by decide +kernel
theorem dX5_init_24 : decode cX5_init 24 = .ok (.newarray .int, 2) := by decide +kernel
theorem dX5_init_26 : decode cX5_init 26 = .ok (.putfield 19, 3) := by decide +kernel
theorem dX5_init_29 : decode cX5_init 29 = .ok (.aload_n 0, 1) := by decide +kernel
theorem dX5_init_30 : decode cX5_init 30 = .ok (.new 22, 3) := by decide +kernel
theorem dX5_init_33 : decode cX5_init 33 = .ok (.dup, 1) := by decide +kernel
theorem dX5_init_34 : decode cX5_init 34 = .ok (.bipush 30, 2) := by decide +kernel
theorem dX5_init_36 : decode cX5_init 36 = .ok (.invokespecial 24, 3) := by decide +kernel
theorem dX5_init_39 : decode cX5_init 39 = .ok (.putfield 27, 3) := by decide +kernel
theorem dX5_init_42 : decode cX5_init 42 = .ok (.aload_n 0, 1) := by decide +kernel
theorem dX5_init_43 : decode cX5_init 43 = .ok (.bipush 12, 2) := by decide +kernel
theorem dX5_init_45 : decode cX5_init 45 = .ok (.anewarray 31, 3) := by decide +kernel
theorem dX5_init_48 : decode cX5_init 48 = .ok (.putfield 33, 3) := by decide +kernel
theorem dX5_init_51 : decode cX5_init 51 = .ok (.aload_n 0, 1) := by decide +kernel
theorem dX5_init_52 : decode cX5_init 52 = .ok (.iconst 0, 1) := by decide +kernel
theorem dX5_init_53 : decode cX5_init 53 = .ok (.putfield 37, 3) := by decide +kernel
theorem dX5_init_56 : decode cX5_init 56 = .ok (.aload_n 0, 1) := by decide +kernel
theorem dX5_init_57 : decode cX5_init 57 = .ok (.new 22, 3) := by decide +kernel
theorem dX5_init_60 : decode cX5_init 60 = .ok (.dup, 1) := by decide +kernel
theorem dX5_init_61 : decode cX5_init 61 = .ok (.bipush 30, 2) := by decide +kernel
theorem dX5_init_63 : decode cX5_init 63 = .ok (.invokespecial 24, 3) := by decide +kernel
theorem dX5_init_66 : decode cX5_init 66 = .ok (.putfield 41, 3) := by decide +kernel
theorem dX5_init_69 : decode cX5_init 69 = .ok (.aload_n 0, 1) := by decide +kernel
theorem dX5_init_70 : decode cX5_init 70 = .ok (.new 22, 3) := by decide +kernel
theorem dX5_init_73 : decode cX5_init 73 = .ok (.dup, 1) := by decide +kernel
theorem dX5_init_74 : decode cX5_init 74 = .ok (.bipush 30, 2) := by decide +kernel
theorem dX5_init_76 : decode cX5_init 76 = .ok (.invokespecial 24, 3) := by decide +kernel
theorem dX5_init_79 : decode cX5_init 79 = .ok (.putfield 44, 3) := by decide +kernel
theorem dX5_init_82 : decode cX5_init 82 = .ok (.aload_n 0, 1) := by decide +kernel
theorem dX5_init_83 : decode cX5_init 83 = .ok (.iconst 5, 1) := by decide +kernel
theorem dX5_init_84 : decode cX5_init 84 = .ok (.putfield 47, 3) := by decide +kernel
theorem dX5_init_87 : decode cX5_init 87 = .ok (.aload_n 0, 1) := by decide +kernel
theorem dX5_init_88 : decode cX5_init 88 = .ok (.iconst 0, 1) := by decide +kernel
theorem dX5_init_89 : decode cX5_init 89 = .ok (.putfield 50, 3) := by decide +kernel
theorem dX5_init_92 : decode cX5_init 92 = .ok (.aload_n 0, 1) := by decide +kernel
theorem dX5_init_93 : decode cX5_init 93 = .ok (.iconst 0, 1) := by decide +kernel
theorem dX5_init_94 : decode cX5_init 94 = .ok (.putfield 53, 3) := by decide +kernel
theorem dX5_init_97 : decode cX5_init 97 = .ok (.iconst 0, 1) := by decide +kernel
theorem dX5_init_98 : decode cX5_init 98 = .ok (.istore_n 1, 1) := by decide +kernel
theorem dX5_init_99 : decode cX5_init 99 = .ok (.iload_n 1, 1) := by decide +kernel
theorem dX5_init_100 : decode cX5_init 100 = .ok (.bipush 8, 2) := by decide +kernel
theorem dX5_init_102 : decode cX5_init 102 = .ok (.if_icmp .ge 23, 3) := by decide +kernel
theorem dX5_init_105 : decode cX5_init 105 = .ok (.aload_n 0, 1) := by decide +kernel
theorem dX5_init_106 : decode cX5_init 106 = .ok (.getfield 11, 3) := by decide +kernel
theorem dX5_init_109 : decode cX5_init 109 = .ok (.iload_n 1, 1) := by decide +kernel
theorem dX5_init_110 : decode cX5_init 110 = .ok (.new 9, 3) := by decide +kernel
theorem dX5_init_113 : decode cX5_init 113 = .ok (.dup, 1) := by decide +kernel
theorem dX5_init_114 : decode cX5_init 114 = .ok (.iload_n 1, 1) := by decide +kernel
theorem dX5_init_115 : decode cX5_init 115 = .ok (.invokespecial 56, 3) := by decide +kernel
theorem dX5_init_118 : decode cX5_init 118 = .ok (.aastore, 1) := by decide +kernel
theorem dX5_init_119 : decode cX5_init 119 = .ok (.iinc 1 1, 3) := by decide +kernel
theorem dX5_init_122 : decode cX5_init 122 = .ok (.goto (-23), 3) := by decide +kernel
theorem dX5_init_125 : decode cX5_init 125 = .ok (.return_, 1) := by decide +kernel
theorem dX5_section_0 : decode cX5_section 0 = .ok (.aload_n 0, 1) := by decide +kernel
theorem dX5_section_1 : decode cX5_section 1 = .ok (.iload_n 1, 1) := by decide +kernel
theorem dX5_section_2 : decode cX5_section 2 = .ok (.invokevirtual 57, 3) := by decide +kernel
theorem dX5_section_5 : decode cX5_section 5 = .ok (.astore 5, 2) := by decide +kernel
theorem dX5_section_7 : decode cX5_section 7 = .ok (.aload 5, 2) := by decide +kernel
theorem dX5_section_9 : decode cX5_section 9 = .ok (.ifnull 23, 3) := by decide +kernel
theorem dX5_section_12 : decode cX5_section 12 = .ok (.iload_n 2, 1) := by decide +kernel
theorem dX5_section_13 : decode cX5_section 13 = .ok (.iconst 1, 1) := by decide +kernel
theorem dX5_section_14 : decode cX5_section 14 = .ok (.bipush 60, 2) := by decide +kernel
theorem dX5_section_16 : decode cX5_section 16 = .ok (.invokestatic 61, 3) := by decide +kernel
theorem dX5_section_19 : decode cX5_section 19 = .ok (.ifCond .eq 13, 3) := by decide +kernel
theorem dX5_section_22 : decode cX5_section 22 = .ok (.iload_n 3, 1) := by decide +kernel
theorem dX5_section_23 : decode cX5_section 23 = .ok (.iconst 1, 1) := by decide +kernel
theorem dX5_section_24 : decode cX5_section 24 = .ok (.bipush 40, 2) := by decide +kernel
theorem dX5_section_26 : decode cX5_section 26 = .ok (.invokestatic 61, 3) := by decide +kernel
theorem dX5_section_29 : decode cX5_section 29 = .ok (.ifCond .ne 5, 3) := by decide +kernel
theorem dX5_section_32 : decode cX5_section 32 = .ok (.iconst (-1), 1) := by decide +kernel
theorem dX5_section_33 : decode cX5_section 33 = .ok (.ireturn, 1) := by decide +kernel
theorem dX5_section_34 : decode cX5_section 34 = .ok (.aload_n 0, 1) := by decide +kernel
theorem dX5_section_35 : decode cX5_section 35 = .ok (.getfield 53, 3) := by decide +kernel
theorem dX5_section_38 : decode cX5_section 38 = .ok (.ifCond .le 6, 3) := by decide +kernel
theorem dX5_section_41 : decode cX5_section 41 = .ok (.bipush (-2), 2) := by decide +kernel
theorem dX5_section_43 : decode cX5_section 43 = .ok (.ireturn, 1) := by decide +kernel
theorem dX5_section_44 : decode cX5_section 44 = .ok (.aload 5, 2) := by decide +kernel
theorem dX5_section_46 : decode cX5_section 46 = .ok (.iload_n 2, 1) := by decide +kernel
theorem dX5_section_47 : decode cX5_section 47 = .ok (.putfield 65, 3) := by decide +kernel
theorem dX5_section_50 : decode cX5_section 50 = .ok (.aload 5, 2) := by decide +kernel
theorem dX5_section_52 : decode cX5_section 52 = .ok (.iload_n 3, 1) := by decide +kernel
theorem dX5_section_53 : decode cX5_section 53 = .ok (.putfield 68, 3) := by decide +kernel
theorem dX5_section_56 : decode cX5_section 56 = .ok (.aload 5, 2) := by decide +kernel
theorem dX5_section_58 : decode cX5_section 58 = .ok (.iload 4, 2) := by decide +kernel
theorem dX5_section_60 : decode cX5_section 60 = .ok (.putfield 71, 3) := by decide +kernel
theorem dX5_section_63 : decode cX5_section 63 = .ok (.iconst 0, 1) := by decide +kernel
theorem dX5_section_64 : decode cX5_section 64 = .ok (.ireturn, 1) := by decide +kernel
theorem dX5_tide_0 : decode cX5_tide 0 = .ok (.iload_n 1, 1) := by decide +kernel
theorem dX5_tide_1 : decode cX5_tide 1 = .ok (.iconst 0, 1) := by decide +kernel
theorem dX5_tide_2 : decode cX5_tide 2 = .ok (.bipush 23, 2) := by decide +kernel
theorem dX5_tide_4 : decode cX5_tide 4 = .ok (.invokestatic 61, 3) := by decide +kernel
theorem dX5_tide_7 : decode cX5_tide 7 = .ok (.ifCond .eq 13, 3) := by decide +kernel
theorem dX5_tide_10 : decode cX5_tide 10 = .ok (.iload_n 2, 1) := by decide +kernel
theorem dX5_tide_11 : decode cX5_tide 11 = .ok (.iconst 0, 1) := by decide +kernel
theorem dX5_tide_12 : decode cX5_tide 12 = .ok (.bipush 9, 2) := by decide +kernel
theorem dX5_tide_14 : decode cX5_tide 14 = .ok (.invokestatic 61, 3) := by decide +kernel
theorem dX5_tide_17 : decode cX5_tide 17 = .ok (.ifCond .ne 5, 3) := by decide +kernel
theorem dX5_tide_20 : decode cX5_tide 20 = .ok (.iconst (-1), 1) := by decide +kernel
theorem dX5_tide_21 : decode cX5_tide 21 = .ok (.ireturn, 1) := by decide +kernel
theorem dX5_tide_22 : decode cX5_tide 22 = .ok (.aload_n 0, 1) := by decide +kernel
theorem dX5_tide_23 : decode cX5_tide 23 = .ok (.getfield 15, 3) := by decide +kernel
theorem dX5_tide_26 : decode cX5_tide 26 = .ok (.iload_n 1, 1) := by decide +kernel
theorem dX5_tide_27 : decode cX5_tide 27 = .ok (.iaload, 1) := by decide +kernel
theorem dX5_tide_28 : decode cX5_tide 28 = .ok (.istore_n 3, 1) := by decide +kernel
theorem dX5_tide_29 : decode cX5_tide 29 = .ok (.aload_n 0, 1) := by decide +kernel
theorem dX5_tide_30 : decode cX5_tide 30 = .ok (.getfield 15, 3) := by decide +kernel
theorem dX5_tide_33 : decode cX5_tide 33 = .ok (.iload_n 1, 1) := by decide +kernel
theorem dX5_tide_34 : decode cX5_tide 34 = .ok (.iload_n 2, 1) := by decide +kernel
theorem dX5_tide_35 : decode cX5_tide 35 = .ok (.iastore, 1) := by decide +kernel
theorem dX5_tide_36 : decode cX5_tide 36 = .ok (.iload_n 3, 1) := by decide +kernel
theorem dX5_tide_37 : decode cX5_tide 37 = .ok (.ireturn, 1) := by decide +kernel
theorem dX5_wind_0 : decode cX5_wind 0 = .ok (.iload_n 1, 1) := by decide +kernel
theorem dX5_wind_1 : decode cX5_wind 1 = .ok (.iconst 0, 1) := by decide +kernel
theorem dX5_wind_2 : decode cX5_wind 2 = .ok (.bipush 23, 2) := by decide +kernel
theorem dX5_wind_4 : decode cX5_wind 4 = .ok (.invokestatic 61, 3) := by decide +kernel
theorem dX5_wind_7 : decode cX5_wind 7 = .ok (.ifCond .eq 13, 3) := by decide +kernel
theorem dX5_wind_10 : decode cX5_wind 10 = .ok (.iload_n 2, 1) := by decide +kernel
theorem dX5_wind_11 : decode cX5_wind 11 = .ok (.iconst (-1), 1) := by decide +kernel
theorem dX5_wind_12 : decode cX5_wind 12 = .ok (.bipush 12, 2) := by decide +kernel
theorem dX5_wind_14 : decode cX5_wind 14 = .ok (.invokestatic 61, 3) := by decide +kernel
theorem dX5_wind_17 : decode cX5_wind 17 = .ok (.ifCond .ne 6, 3) := by decide +kernel
theorem dX5_wind_20 : decode cX5_wind 20 = .ok (.bipush (-9), 2) := by decide +kernel
theorem dX5_wind_22 : decode cX5_wind 22 = .ok (.ireturn, 1) := by decide +kernel
theorem dX5_wind_23 : decode cX5_wind 23 = .ok (.aload_n 0, 1) := by decide +kernel
theorem dX5_wind_24 : decode cX5_wind 24 = .ok (.getfield 19, 3) := by decide +kernel
theorem dX5_wind_27 : decode cX5_wind 27 = .ok (.iload_n 1, 1) := by decide +kernel
theorem dX5_wind_28 : decode cX5_wind 28 = .ok (.iaload, 1) := by decide +kernel
theorem dX5_wind_29 : decode cX5_wind 29 = .ok (.istore_n 3, 1) := by decide +kernel
theorem dX5_wind_30 : decode cX5_wind 30 = .ok (.aload_n 0, 1) := by decide +kernel
theorem dX5_wind_31 : decode cX5_wind 31 = .ok (.getfield 19, 3) := by decide +kernel
theorem dX5_wind_34 : decode cX5_wind 34 = .ok (.iload_n 1, 1) := by decide +kernel
theorem dX5_wind_35 : decode cX5_wind 35 = .ok (.iload_n 2, 1) := by decide +kernel
theorem dX5_wind_36 : decode cX5_wind 36 = .ok (.iastore, 1) := by decide +kernel
theorem dX5_wind_37 : decode cX5_wind 37 = .ok (.iload_n 3, 1) := by decide +kernel
theorem dX5_wind_38 : decode cX5_wind 38 = .ok (.ireturn, 1) := by decide +kernel
theorem dX5_rule_0 : decode cX5_rule 0 = .ok (.iload_n 1, 1) := by decide +kernel
theorem dX5_rule_1 : decode cX5_rule 1 = .ok (.ifCond .ne 25, 3) := by decide +kernel
theorem dX5_rule_4 : decode cX5_rule 4 = .ok (.iload_n 2, 1) := by decide +kernel
theorem dX5_rule_5 : decode cX5_rule 5 = .ok (.iconst 0, 1) := by decide +kernel
theorem dX5_rule_6 : decode cX5_rule 6 = .ok (.bipush 60, 2) := by decide +kernel
theorem dX5_rule_8 : decode cX5_rule 8 = .ok (.invokestatic 61, 3) := by decide +kernel
theorem dX5_rule_11 : decode cX5_rule 11 = .ok (.ifCond .eq 15, 3) := by decide +kernel
theorem dX5_rule_14 : decode cX5_rule 14 = .ok (.aload_n 0, 1) := by decide +kernel
theorem dX5_rule_15 : decode cX5_rule 15 = .ok (.getfield 47, 3) := by decide +kernel
theorem dX5_rule_18 : decode cX5_rule 18 = .ok (.istore_n 3, 1) := by decide +kernel
theorem dX5_rule_19 : decode cX5_rule 19 = .ok (.aload_n 0, 1) := by decide +kernel
theorem dX5_rule_20 : decode cX5_rule 20 = .ok (.iload_n 2, 1) := by decide +kernel
theorem dX5_rule_21 : decode cX5_rule 21 = .ok (.putfield 47, 3) := by decide +kernel
theorem dX5_rule_24 : decode cX5_rule 24 = .ok (.iload_n 3, 1) := by decide +kernel
theorem dX5_rule_25 : decode cX5_rule 25 = .ok (.ireturn, 1) := by decide +kernel
theorem dX5_rule_26 : decode cX5_rule 26 = .ok (.iload_n 1, 1) := by decide +kernel
theorem dX5_rule_27 : decode cX5_rule 27 = .ok (.iconst 1, 1) := by decide +kernel
theorem dX5_rule_28 : decode cX5_rule 28 = .ok (.if_icmp .ne 24, 3) := by decide +kernel
theorem dX5_rule_31 : decode cX5_rule 31 = .ok (.iload_n 2, 1) := by decide +kernel
theorem dX5_rule_32 : decode cX5_rule 32 = .ok (.iconst 0, 1) := by decide +kernel
theorem dX5_rule_33 : decode cX5_rule 33 = .ok (.iconst 1, 1) := by decide +kernel
theorem dX5_rule_34 : decode cX5_rule 34 = .ok (.invokestatic 61, 3) := by decide +kernel
theorem dX5_rule_37 : decode cX5_rule 37 = .ok (.ifCond .eq 15, 3) := by decide +kernel
theorem dX5_rule_40 : decode cX5_rule 40 = .ok (.aload_n 0, 1) := by decide +kernel
theorem dX5_rule_41 : decode cX5_rule 41 = .ok (.getfield 50, 3) := by decide +kernel
theorem dX5_rule_44 : decode cX5_rule 44 = .ok (.istore_n 3, 1) := by decide +kernel
theorem dX5_rule_45 : decode cX5_rule 45 = .ok (.aload_n 0, 1) := by decide +kernel
theorem dX5_rule_46 : decode cX5_rule 46 = .ok (.iload_n 2, 1) := by decide +kernel
theorem dX5_rule_47 : decode cX5_rule 47 = .ok (.putfield 50, 3) := by decide +kernel
theorem dX5_rule_50 : decode cX5_rule 50 = .ok (.iload_n 3, 1) := by decide +kernel
theorem dX5_rule_51 : decode cX5_rule 51 = .ok (.ireturn, 1) := by decide +kernel
theorem dX5_rule_52 : decode cX5_rule 52 = .ok (.iconst (-1), 1) := by decide +kernel
theorem dX5_rule_53 : decode cX5_rule 53 = .ok (.ireturn, 1) := by decide +kernel
theorem dX5_ship_0 : decode cX5_ship 0 = .ok (.iload_n 1, 1) := by decide +kernel
theorem dX5_ship_1 : decode cX5_ship 1 = .ok (.invokestatic 75, 3) := by decide +kernel
theorem dX5_ship_4 : decode cX5_ship 4 = .ok (.ifCond .eq 36, 3) := by decide +kernel
theorem dX5_ship_7 : decode cX5_ship 7 = .ok (.iload_n 2, 1) := by decide +kernel
theorem dX5_ship_8 : decode cX5_ship 8 = .ok (.iconst 0, 1) := by decide +kernel
theorem dX5_ship_9 : decode cX5_ship 9 = .ok (.sipush 9999, 3) := by decide +kernel
theorem dX5_ship_12 : decode cX5_ship 12 = .ok (.invokestatic 61, 3) := by decide +kernel
theorem dX5_ship_15 : decode cX5_ship 15 = .ok (.ifCond .eq 25, 3) := by decide +kernel
theorem dX5_ship_18 : decode cX5_ship 18 = .ok (.iload 4, 2) := by decide +kernel
theorem dX5_ship_20 : decode cX5_ship 20 = .ok (.iconst 1, 1) := by decide +kernel
theorem dX5_ship_21 : decode cX5_ship 21 = .ok (.bipush 45, 2) := by decide +kernel
theorem dX5_ship_23 : decode cX5_ship 23 = .ok (.invokestatic 61, 3) := by decide +kernel
theorem dX5_ship_26 : decode cX5_ship 26 = .ok (.ifCond .eq 14, 3) := by decide +kernel
theorem dX5_ship_29 : decode cX5_ship 29 = .ok (.iload 6, 2) := by decide +kernel
theorem dX5_ship_31 : decode cX5_ship 31 = .ok (.iconst 1, 1) := by decide +kernel
theorem dX5_ship_32 : decode cX5_ship 32 = .ok (.ldc 79, 2) := by decide +kernel
theorem dX5_ship_34 : decode cX5_ship 34 = .ok (.invokestatic 61, 3) := by decide +kernel
theorem dX5_ship_37 : decode cX5_ship 37 = .ok (.ifCond .ne 5, 3) := by decide +kernel
theorem dX5_ship_40 : decode cX5_ship 40 = .ok (.iconst (-1), 1) := by decide +kernel
theorem dX5_ship_41 : decode cX5_ship 41 = .ok (.ireturn, 1) := by decide +kernel
theorem dX5_ship_42 : decode cX5_ship 42 = .ok (.iload_n 2, 1) := by decide +kernel
theorem dX5_ship_43 : decode cX5_ship 43 = .ok (.aload_n 0, 1) := by decide +kernel
theorem dX5_ship_44 : decode cX5_ship 44 = .ok (.getfield 53, 3) := by decide +kernel
theorem dX5_ship_47 : decode cX5_ship 47 = .ok (.if_icmp .ge 6, 3) := by decide +kernel
theorem dX5_ship_50 : decode cX5_ship 50 = .ok (.bipush (-2), 2) := by decide +kernel
theorem dX5_ship_52 : decode cX5_ship 52 = .ok (.ireturn, 1) := by decide +kernel
theorem dX5_ship_53 : decode cX5_ship 53 = .ok (.aload_n 0, 1) := by decide +kernel
theorem dX5_ship_54 : decode cX5_ship 54 = .ok (.getfield 27, 3) := by decide +kernel
theorem dX5_ship_57 : decode cX5_ship 57 = .ok (.invokevirtual 80, 3) := by decide +kernel
theorem dX5_ship_60 : decode cX5_ship 60 = .ok (.ifCond .eq 6, 3) := by decide +kernel
theorem dX5_ship_63 : decode cX5_ship 63 = .ok (.bipush (-3), 2) := by decide +kernel
theorem dX5_ship_65 : decode cX5_ship 65 = .ok (.ireturn, 1) := by decide +kernel
theorem dX5_ship_66 : decode cX5_ship 66 = .ok (.aload_n 0, 1) := by decide +kernel
theorem dX5_ship_67 : decode cX5_ship 67 = .ok (.getfield 27, 3) := by decide +kernel
theorem dX5_ship_70 : decode cX5_ship 70 = .ok (.getfield 84, 3) := by decide +kernel
theorem dX5_ship_73 : decode cX5_ship 73 = .ok (.istore 7, 2) := by decide +kernel
theorem dX5_ship_75 : decode cX5_ship 75 = .ok (.aload_n 0, 1) := by decide +kernel
theorem dX5_ship_76 : decode cX5_ship 76 = .ok (.getfield 27, 3) := by decide +kernel
theorem dX5_ship_79 : decode cX5_ship 79 = .ok (.new 87, 3) := by decide +kernel
theorem dX5_ship_82 : decode cX5_ship 82 = .ok (.dup, 1) := by decide +kernel
theorem dX5_ship_83 : decode cX5_ship 83 = .ok (.iload 7, 2) := by decide +kernel
theorem dX5_ship_85 : decode cX5_ship 85 = .ok (.iload_n 1, 1) := by decide +kernel
theorem dX5_ship_86 : decode cX5_ship 86 = .ok (.iload_n 2, 1) := by decide +kernel
theorem dX5_ship_87 : decode cX5_ship 87 = .ok (.iload_n 3, 1) := by decide +kernel
theorem dX5_ship_88 : decode cX5_ship 88 = .ok (.iload 4, 2) := by decide +kernel
theorem dX5_ship_90 : decode cX5_ship 90 = .ok (.iload 5, 2) := by decide +kernel
theorem dX5_ship_92 : decode cX5_ship 92 = .ok (.iload 6, 2) := by decide +kernel
theorem dX5_ship_94 : decode cX5_ship 94 = .ok (.invokespecial 89, 3) := by decide +kernel
theorem dX5_ship_97 : decode cX5_ship 97 = .ok (.invokevirtual 92, 3) := by decide +kernel
theorem dX5_ship_100 : decode cX5_ship 100 = .ok (.iload 7, 2) := by decide +kernel
theorem dX5_ship_102 : decode cX5_ship 102 = .ok (.ireturn, 1) := by decide +kernel
theorem dX5_convoy_0 : decode cX5_convoy 0 = .ok (.iload_n 1, 1) := by decide +kernel
theorem dX5_convoy_1 : decode cX5_convoy 1 = .ok (.invokestatic 75, 3) := by decide +kernel
theorem dX5_convoy_4 : decode cX5_convoy 4 = .ok (.ifCond .eq 14, 3) := by decide +kernel
theorem dX5_convoy_7 : decode cX5_convoy 7 = .ok (.iload_n 2, 1) := by decide +kernel
theorem dX5_convoy_8 : decode cX5_convoy 8 = .ok (.iconst 0, 1) := by decide +kernel
theorem dX5_convoy_9 : decode cX5_convoy 9 = .ok (.sipush 9999, 3) := by decide +kernel
theorem dX5_convoy_12 : decode cX5_convoy 12 = .ok (.invokestatic 61, 3) := by decide +kernel
theorem dX5_convoy_15 : decode cX5_convoy 15 = .ok (.ifCond .ne 5, 3) := by decide +kernel
theorem dX5_convoy_18 : decode cX5_convoy 18 = .ok (.iconst (-1), 1) := by decide +kernel
theorem dX5_convoy_19 : decode cX5_convoy 19 = .ok (.ireturn, 1) := by decide +kernel
theorem dX5_convoy_20 : decode cX5_convoy 20 = .ok (.iload_n 2, 1) := by decide +kernel
theorem dX5_convoy_21 : decode cX5_convoy 21 = .ok (.aload_n 0, 1) := by decide +kernel
theorem dX5_convoy_22 : decode cX5_convoy 22 = .ok (.getfield 53, 3) := by decide +kernel
theorem dX5_convoy_25 : decode cX5_convoy 25 = .ok (.if_icmp .gt 6, 3) := by decide +kernel
theorem dX5_convoy_28 : decode cX5_convoy 28 = .ok (.bipush (-2), 2) := by decide +kernel
theorem dX5_convoy_30 : decode cX5_convoy 30 = .ok (.ireturn, 1) := by decide +kernel
theorem dX5_convoy_31 : decode cX5_convoy 31 = .ok (.aload_n 0, 1) := by decide +kernel
theorem dX5_convoy_32 : decode cX5_convoy 32 = .ok (.getfield 37, 3) := by decide +kernel
theorem dX5_convoy_35 : decode cX5_convoy 35 = .ok (.bipush 12, 2) := by decide +kernel
theorem dX5_convoy_37 : decode cX5_convoy 37 = .ok (.if_icmp .lt 6, 3) := by decide +kernel
theorem dX5_convoy_40 : decode cX5_convoy 40 = .ok (.bipush (-3), 2) := by decide +kernel
theorem dX5_convoy_42 : decode cX5_convoy 42 = .ok (.ireturn, 1) := by decide +kernel
theorem dX5_convoy_43 : decode cX5_convoy 43 = .ok (.aload_n 0, 1) := by decide +kernel
theorem dX5_convoy_44 : decode cX5_convoy 44 = .ok (.getfield 33, 3) := by decide +kernel
theorem dX5_convoy_47 : decode cX5_convoy 47 = .ok (.aload_n 0, 1) := by decide +kernel
theorem dX5_convoy_48 : decode cX5_convoy 48 = .ok (.getfield 37, 3) := by decide +kernel
theorem dX5_convoy_51 : decode cX5_convoy 51 = .ok (.new 31, 3) := by decide +kernel
theorem dX5_convoy_54 : decode cX5_convoy 54 = .ok (.dup, 1) := by decide +kernel
theorem dX5_convoy_55 : decode cX5_convoy 55 = .ok (.iload_n 1, 1) := by decide +kernel
theorem dX5_convoy_56 : decode cX5_convoy 56 = .ok (.iload_n 2, 1) := by decide +kernel
theorem dX5_convoy_57 : decode cX5_convoy 57 = .ok (.invokespecial 96, 3) := by decide +kernel
theorem dX5_convoy_60 : decode cX5_convoy 60 = .ok (.aastore, 1) := by decide +kernel
theorem dX5_convoy_61 : decode cX5_convoy 61 = .ok (.aload_n 0, 1) := by decide +kernel
theorem dX5_convoy_62 : decode cX5_convoy 62 = .ok (.dup, 1) := by decide +kernel
theorem dX5_convoy_63 : decode cX5_convoy 63 = .ok (.getfield 37, 3) := by decide +kernel
theorem dX5_convoy_66 : decode cX5_convoy 66 = .ok (.iconst 1, 1) := by decide +kernel
theorem dX5_convoy_67 : decode cX5_convoy 67 = .ok (.iadd, 1) := by decide +kernel
theorem dX5_convoy_68 : decode cX5_convoy 68 = .ok (.putfield 37, 3) := by decide +kernel
theorem dX5_convoy_71 : decode cX5_convoy 71 = .ok (.aload_n 0, 1) := by decide +kernel
theorem dX5_convoy_72 : decode cX5_convoy 72 = .ok (.getfield 37, 3) := by decide +kernel
theorem dX5_convoy_75 : decode cX5_convoy 75 = .ok (.iconst 1, 1) := by decide +kernel
theorem dX5_convoy_76 : decode cX5_convoy 76 = .ok (.isub, 1) := by decide +kernel
theorem dX5_convoy_77 : decode cX5_convoy 77 = .ok (.ireturn, 1) := by decide +kernel
theorem dX5_book_0 : decode cX5_book 0 = .ok (.aload_n 0, 1) := by decide +kernel
theorem dX5_book_1 : decode cX5_book 1 = .ok (.iload_n 1, 1) := by decide +kernel
theorem dX5_book_2 : decode cX5_book 2 = .ok (.invokevirtual 99, 3) := by decide +kernel
theorem dX5_book_5 : decode cX5_book 5 = .ok (.astore_n 3, 1) := by decide +kernel
theorem dX5_book_6 : decode cX5_book 6 = .ok (.aload_n 0, 1) := by decide +kernel
theorem dX5_book_7 : decode cX5_book 7 = .ok (.getfield 27, 3) := by decide +kernel
theorem dX5_book_10 : decode cX5_book 10 = .ok (.iload_n 2, 1) := by decide +kernel
theorem dX5_book_11 : decode cX5_book 11 = .ok (.invokevirtual 103, 3) := by decide +kernel
theorem dX5_book_14 : decode cX5_book 14 = .ok (.astore 4, 2) := by decide +kernel
theorem dX5_book_16 : decode cX5_book 16 = .ok (.aload_n 3, 1) := by decide +kernel
theorem dX5_book_17 : decode cX5_book 17 = .ok (.ifnull 8, 3) := by decide +kernel
theorem dX5_book_20 : decode cX5_book 20 = .ok (.aload 4, 2) := by decide +kernel
theorem dX5_book_22 : decode cX5_book 22 = .ok (.ifnonnull 5, 3) := by decide +kernel
theorem dX5_book_25 : decode cX5_book 25 = .ok (.iconst (-1), 1) := by decide +kernel
theorem dX5_book_26 : decode cX5_book 26 = .ok (.ireturn, 1) := by decide +kernel
theorem dX5_book_27 : decode cX5_book 27 = .ok (.aload_n 3, 1) := by decide +kernel
theorem dX5_book_28 : decode cX5_book 28 = .ok (.getfield 107, 3) := by decide +kernel
theorem dX5_book_31 : decode cX5_book 31 = .ok (.aload 4, 2) := by decide +kernel
theorem dX5_book_33 : decode cX5_book 33 = .ok (.getfield 110, 3) := by decide +kernel
theorem dX5_book_36 : decode cX5_book 36 = .ok (.if_icmp .ne 36, 3) := by decide +kernel
theorem dX5_book_39 : decode cX5_book 39 = .ok (.aload 4, 2) := by decide +kernel
theorem dX5_book_41 : decode cX5_book 41 = .ok (.getfield 111, 3) := by decide +kernel
theorem dX5_book_44 : decode cX5_book 44 = .ok (.bipush (-4), 2) := by decide +kernel
theorem dX5_book_46 : decode cX5_book 46 = .ok (.if_icmp .ne 26, 3) := by decide +kernel
theorem dX5_book_49 : decode cX5_book 49 = .ok (.aload_n 3, 1) := by decide +kernel
theorem dX5_book_50 : decode cX5_book 50 = .ok (.getfield 114, 3) := by decide +kernel
theorem dX5_book_53 : decode cX5_book 53 = .ok (.aload_n 0, 1) := by decide +kernel
theorem dX5_book_54 : decode cX5_book 54 = .ok (.getfield 53, 3) := by decide +kernel
theorem dX5_book_57 : decode cX5_book 57 = .ok (.if_icmp .le 15, 3) := by decide +kernel
theorem dX5_book_60 : decode cX5_book 60 = .ok (.aload 4, 2) := by decide +kernel
theorem dX5_book_62 : decode cX5_book 62 = .ok (.getfield 117, 3) := by decide +kernel
theorem dX5_book_65 : decode cX5_book 65 = .ok (.aload_n 0, 1) := by decide +kernel
theorem dX5_book_66 : decode cX5_book 66 = .ok (.getfield 53, 3) := by decide +kernel
theorem dX5_book_69 : decode cX5_book 69 = .ok (.if_icmp .ge 6, 3) := by decide +kernel
theorem dX5_book_72 : decode cX5_book 72 = .ok (.bipush (-2), 2) := by decide +kernel
theorem dX5_book_74 : decode cX5_book 74 = .ok (.ireturn, 1) := by decide +kernel
theorem dX5_book_75 : decode cX5_book 75 = .ok (.aload_n 3, 1) := by decide +kernel
theorem dX5_book_76 : decode cX5_book 76 = .ok (.getfield 120, 3) := by decide +kernel
theorem dX5_book_79 : decode cX5_book 79 = .ok (.invokevirtual 80, 3) := by decide +kernel
theorem dX5_book_82 : decode cX5_book 82 = .ok (.ifCond .eq 6, 3) := by decide +kernel
theorem dX5_book_85 : decode cX5_book 85 = .ok (.bipush (-3), 2) := by decide +kernel
theorem dX5_book_87 : decode cX5_book 87 = .ok (.ireturn, 1) := by decide +kernel
theorem dX5_book_88 : decode cX5_book 88 = .ok (.aload_n 3, 1) := by decide +kernel
theorem dX5_book_89 : decode cX5_book 89 = .ok (.getfield 120, 3) := by decide +kernel
theorem dX5_book_92 : decode cX5_book 92 = .ok (.aload 4, 2) := by decide +kernel
theorem dX5_book_94 : decode cX5_book 94 = .ok (.invokevirtual 92, 3) := by decide +kernel
theorem dX5_book_97 : decode cX5_book 97 = .ok (.aload 4, 2) := by decide +kernel
theorem dX5_book_99 : decode cX5_book 99 = .ok (.iload_n 1, 1) := by decide +kernel
theorem dX5_book_100 : decode cX5_book 100 = .ok (.putfield 111, 3) := by decide +kernel
theorem dX5_book_103 : decode cX5_book 103 = .ok (.aload_n 3, 1) := by decide +kernel
theorem dX5_book_104 : decode cX5_book 104 = .ok (.getfield 120, 3) := by decide +kernel
theorem dX5_book_107 : decode cX5_book 107 = .ok (.getfield 84, 3) := by decide +kernel
theorem dX5_book_110 : decode cX5_book 110 = .ok (.ireturn, 1) := by decide +kernel
theorem dX5_ground_0 : decode cX5_ground 0 = .ok (.aload_n 0, 1) := by decide +kernel
theorem dX5_ground_1 : decode cX5_ground 1 = .ok (.getfield 27, 3) := by decide +kernel
theorem dX5_ground_4 : decode cX5_ground 4 = .ok (.iload_n 1, 1) := by decide +kernel
theorem dX5_ground_5 : decode cX5_ground 5 = .ok (.invokevirtual 103, 3) := by decide +kernel
theorem dX5_ground_8 : decode cX5_ground 8 = .ok (.astore_n 3, 1) := by decide +kernel
theorem dX5_ground_9 : decode cX5_ground 9 = .ok (.aload_n 3, 1) := by decide +kernel
theorem dX5_ground_10 : decode cX5_ground 10 = .ok (.ifnull 14, 3) := by decide +kernel
theorem dX5_ground_13 : decode cX5_ground 13 = .ok (.iload_n 2, 1) := by decide +kernel
theorem dX5_ground_14 : decode cX5_ground 14 = .ok (.iconst 1, 1) := by decide +kernel
theorem dX5_ground_15 : decode cX5_ground 15 = .ok (.sipush 500, 3) := by decide +kernel
theorem dX5_ground_18 : decode cX5_ground 18 = .ok (.invokestatic 61, 3) := by decide +kernel
theorem dX5_ground_21 : decode cX5_ground 21 = .ok (.ifCond .ne 5, 3) := by decide +kernel
theorem dX5_ground_24 : decode cX5_ground 24 = .ok (.iconst (-1), 1) := by decide +kernel
theorem dX5_ground_25 : decode cX5_ground 25 = .ok (.ireturn, 1) := by decide +kernel
theorem dX5_ground_26 : decode cX5_ground 26 = .ok (.aload_n 3, 1) := by decide +kernel
theorem dX5_ground_27 : decode cX5_ground 27 = .ok (.invokevirtual 123, 3) := by decide +kernel
theorem dX5_ground_30 : decode cX5_ground 30 = .ok (.ifCond .eq 14, 3) := by decide +kernel
theorem dX5_ground_33 : decode cX5_ground 33 = .ok (.aload_n 3, 1) := by decide +kernel
theorem dX5_ground_34 : decode cX5_ground 34 = .ok (.aload_n 0, 1) := by decide +kernel
theorem dX5_ground_35 : decode cX5_ground 35 = .ok (.getfield 53, 3) := by decide +kernel
theorem dX5_ground_38 : decode cX5_ground 38 = .ok (.invokevirtual 126, 3) := by decide +kernel
theorem dX5_ground_41 : decode cX5_ground 41 = .ok (.ifCond .eq 6, 3) := by decide +kernel
theorem dX5_ground_44 : decode cX5_ground 44 = .ok (.bipush (-2), 2) := by decide +kernel
theorem dX5_ground_46 : decode cX5_ground 46 = .ok (.ireturn, 1) := by decide +kernel
theorem dX5_ground_47 : decode cX5_ground 47 = .ok (.aload_n 3, 1) := by decide +kernel
theorem dX5_ground_48 : decode cX5_ground 48 = .ok (.aload_n 0, 1) := by decide +kernel
theorem dX5_ground_49 : decode cX5_ground 49 = .ok (.getfield 53, 3) := by decide +kernel
theorem dX5_ground_52 : decode cX5_ground 52 = .ok (.iload_n 2, 1) := by decide +kernel
theorem dX5_ground_53 : decode cX5_ground 53 = .ok (.iadd, 1) := by decide +kernel
theorem dX5_ground_54 : decode cX5_ground 54 = .ok (.putfield 129, 3) := by decide +kernel
theorem dX5_ground_57 : decode cX5_ground 57 = .ok (.iconst 1, 1) := by decide +kernel
theorem dX5_ground_58 : decode cX5_ground 58 = .ok (.ireturn, 1) := by decide +kernel
theorem dX5_minutes_0 : decode cX5_minutes 0 = .ok (.iload_n 1, 1) := by decide +kernel
theorem dX5_minutes_1 : decode cX5_minutes 1 = .ok (.iconst 1, 1) := by decide +kernel
theorem dX5_minutes_2 : decode cX5_minutes 2 = .ok (.sipush 300, 3) := by decide +kernel
theorem dX5_minutes_5 : decode cX5_minutes 5 = .ok (.invokestatic 61, 3) := by decide +kernel
theorem dX5_minutes_8 : decode cX5_minutes 8 = .ok (.ifCond .ne 5, 3) := by decide +kernel
theorem dX5_minutes_11 : decode cX5_minutes 11 = .ok (.iconst (-1), 1) := by decide +kernel
theorem dX5_minutes_12 : decode cX5_minutes 12 = .ok (.ireturn, 1) := by decide +kernel
theorem dX5_minutes_13 : decode cX5_minutes 13 = .ok (.aload_n 0, 1) := by decide +kernel
theorem dX5_minutes_14 : decode cX5_minutes 14 = .ok (.getfield 53, 3) := by decide +kernel
theorem dX5_minutes_17 : decode cX5_minutes 17 = .ok (.iload_n 1, 1) := by decide +kernel
theorem dX5_minutes_18 : decode cX5_minutes 18 = .ok (.iadd, 1) := by decide +kernel
theorem dX5_minutes_19 : decode cX5_minutes 19 = .ok (.sipush 10000, 3) := by decide +kernel
theorem dX5_minutes_22 : decode cX5_minutes 22 = .ok (.if_icmp .le 6, 3) := by decide +kernel
theorem dX5_minutes_25 : decode cX5_minutes 25 = .ok (.bipush (-3), 2) := by decide +kernel
theorem dX5_minutes_27 : decode cX5_minutes 27 = .ok (.ireturn, 1) := by decide +kernel
theorem dX5_minutes_28 : decode cX5_minutes 28 = .ok (.iconst 0, 1) := by decide +kernel
theorem dX5_minutes_29 : decode cX5_minutes 29 = .ok (.istore_n 2, 1) := by decide +kernel
theorem dX5_minutes_30 : decode cX5_minutes 30 = .ok (.iload_n 2, 1) := by decide +kernel
theorem dX5_minutes_31 : decode cX5_minutes 31 = .ok (.iload_n 1, 1) := by decide +kernel
theorem dX5_minutes_32 : decode cX5_minutes 32 = .ok (.if_icmp .ge 47, 3) := by decide +kernel
theorem dX5_minutes_35 : decode cX5_minutes 35 = .ok (.aload_n 0, 1) := by decide +kernel
theorem dX5_minutes_36 : decode cX5_minutes 36 = .ok (.invokevirtual 132, 3) := by decide +kernel
theorem dX5_minutes_39 : decode cX5_minutes 39 = .ok (.aload_n 0, 1) := by decide +kernel
theorem dX5_minutes_40 : decode cX5_minutes 40 = .ok (.invokevirtual 135, 3) := by decide +kernel
theorem dX5_minutes_43 : decode cX5_minutes 43 = .ok (.aload_n 0, 1) := by decide +kernel
theorem dX5_minutes_44 : decode cX5_minutes 44 = .ok (.iconst 0, 1) := by decide +kernel
theorem dX5_minutes_45 : decode cX5_minutes 45 = .ok (.invokevirtual 138, 3) := by decide +kernel
theorem dX5_minutes_48 : decode cX5_minutes 48 = .ok (.aload_n 0, 1) := by decide +kernel
theorem dX5_minutes_49 : decode cX5_minutes 49 = .ok (.iconst 1, 1) := by decide +kernel
theorem dX5_minutes_50 : decode cX5_minutes 50 = .ok (.invokevirtual 138, 3) := by decide +kernel
theorem dX5_minutes_53 : decode cX5_minutes 53 = .ok (.aload_n 0, 1) := by decide +kernel
theorem dX5_minutes_54 : decode cX5_minutes 54 = .ok (.iconst 0, 1) := by decide +kernel
theorem dX5_minutes_55 : decode cX5_minutes 55 = .ok (.invokevirtual 141, 3) := by decide +kernel
theorem dX5_minutes_58 : decode cX5_minutes 58 = .ok (.aload_n 0, 1) := by decide +kernel
theorem dX5_minutes_59 : decode cX5_minutes 59 = .ok (.iconst 1, 1) := by decide +kernel
theorem dX5_minutes_60 : decode cX5_minutes 60 = .ok (.invokevirtual 141, 3) := by decide +kernel
theorem dX5_minutes_63 : decode cX5_minutes 63 = .ok (.aload_n 0, 1) := by decide +kernel
theorem dX5_minutes_64 : decode cX5_minutes 64 = .ok (.dup, 1) := by decide +kernel
theorem dX5_minutes_65 : decode cX5_minutes 65 = .ok (.getfield 53, 3) := by decide +kernel
theorem dX5_minutes_68 : decode cX5_minutes 68 = .ok (.iconst 1, 1) := by decide +kernel
theorem dX5_minutes_69 : decode cX5_minutes 69 = .ok (.iadd, 1) := by decide +kernel
theorem dX5_minutes_70 : decode cX5_minutes 70 = .ok (.putfield 53, 3) := by decide +kernel
theorem dX5_minutes_73 : decode cX5_minutes 73 = .ok (.iinc 2 1, 3) := by decide +kernel
theorem dX5_minutes_76 : decode cX5_minutes 76 = .ok (.goto (-46), 3) := by decide +kernel
theorem dX5_minutes_79 : decode cX5_minutes 79 = .ok (.aload_n 0, 1) := by decide +kernel
theorem dX5_minutes_80 : decode cX5_minutes 80 = .ok (.getfield 53, 3) := by decide +kernel
theorem dX5_minutes_83 : decode cX5_minutes 83 = .ok (.ireturn, 1) := by decide +kernel
theorem dX5_startConvoys_0 : decode cX5_startConvoys 0 = .ok (.iconst 0, 1) := by decide +kernel
theorem dX5_startConvoys_1 : decode cX5_startConvoys 1 = .ok (.istore_n 1, 1) := by decide +kernel
theorem dX5_startConvoys_2 : decode cX5_startConvoys 2 = .ok (.iload_n 1, 1) := by decide +kernel
theorem dX5_startConvoys_3 : decode cX5_startConvoys 3 = .ok (.aload_n 0, 1) := by decide +kernel
theorem dX5_startConvoys_4 : decode cX5_startConvoys 4 = .ok (.getfield 37, 3) := by decide +kernel
theorem dX5_startConvoys_7 : decode cX5_startConvoys 7 = .ok (.if_icmp .ge 46, 3) := by decide +kernel
theorem dX5_startConvoys_10 : decode cX5_startConvoys 10 = .ok (.aload_n 0, 1) := by decide +kernel
theorem dX5_startConvoys_11 : decode cX5_startConvoys 11 = .ok (.iload_n 1, 1) := by decide +kernel
theorem dX5_startConvoys_12 : decode cX5_startConvoys 12 = .ok (.invokevirtual 99, 3) := by decide +kernel
theorem dX5_startConvoys_15 : decode cX5_startConvoys 15 = .ok (.astore_n 2, 1) := by decide +kernel
theorem dX5_startConvoys_16 : decode cX5_startConvoys 16 = .ok (.aload_n 2, 1) := by decide +kernel
theorem dX5_startConvoys_17 : decode cX5_startConvoys 17 = .ok (.ifnull 30, 3) := by decide +kernel
theorem dX5_startConvoys_20 : decode cX5_startConvoys 20 = .ok (.aload_n 2, 1) := by decide +kernel
theorem dX5_startConvoys_21 : decode cX5_startConvoys 21 = .ok (.getfield 114, 3) := by decide +kernel
theorem dX5_startConvoys_24 : decode cX5_startConvoys 24 = .ok (.aload_n 0, 1) := by decide +kernel
theorem dX5_startConvoys_25 : decode cX5_startConvoys 25 = .ok (.getfield 53, 3) := by decide +kernel
theorem dX5_startConvoys_28 : decode cX5_startConvoys 28 = .ok (.if_icmp .ne 19, 3) := by decide +kernel
theorem dX5_startConvoys_31 : decode cX5_startConvoys 31 = .ok (.aload_n 0, 1) := by decide +kernel
theorem dX5_startConvoys_32 : decode cX5_startConvoys 32 = .ok (.aload_n 2, 1) := by decide +kernel
theorem dX5_startConvoys_33 : decode cX5_startConvoys 33 = .ok (.getfield 120, 3) := by decide +kernel
theorem dX5_startConvoys_36 : decode cX5_startConvoys 36 = .ok (.invokevirtual 144, 3) := by decide +kernel
theorem dX5_startConvoys_39 : decode cX5_startConvoys 39 = .ok (.aload_n 0, 1) := by decide +kernel
theorem dX5_startConvoys_40 : decode cX5_startConvoys 40 = .ok (.aload_n 2, 1) := by decide +kernel
theorem dX5_startConvoys_41 : decode cX5_startConvoys 41 = .ok (.getfield 148, 3) := by decide +kernel
theorem dX5_startConvoys_44 : decode cX5_startConvoys 44 = .ok (.invokevirtual 144, 3) := by decide +kernel
theorem dX5_startConvoys_47 : decode cX5_startConvoys 47 = .ok (.iinc 1 1, 3) := by decide +kernel
theorem dX5_startConvoys_50 : decode cX5_startConvoys 50 = .ok (.goto (-48), 3) := by decide +kernel
theorem dX5_startConvoys_53 : decode cX5_startConvoys 53 = .ok (.return_, 1) := by decide +kernel
theorem dX5_joinLine_0 : decode cX5_joinLine 0 = .ok (.iconst 0, 1) := by decide +kernel
theorem dX5_joinLine_1 : decode cX5_joinLine 1 = .ok (.istore_n 2, 1) := by decide +kernel
theorem dX5_joinLine_2 : decode cX5_joinLine 2 = .ok (.iload_n 2, 1) := by decide +kernel
theorem dX5_joinLine_3 : decode cX5_joinLine 3 = .ok (.aload_n 1, 1) := by decide +kernel
theorem dX5_joinLine_4 : decode cX5_joinLine 4 = .ok (.getfield 84, 3) := by decide +kernel
theorem dX5_joinLine_7 : decode cX5_joinLine 7 = .ok (.if_icmp .ge 42, 3) := by decide +kernel
theorem dX5_joinLine_10 : decode cX5_joinLine 10 = .ok (.aload_n 1, 1) := by decide +kernel
theorem dX5_joinLine_11 : decode cX5_joinLine 11 = .ok (.iload_n 2, 1) := by decide +kernel
theorem dX5_joinLine_12 : decode cX5_joinLine 12 = .ok (.invokevirtual 103, 3) := by decide +kernel
theorem dX5_joinLine_15 : decode cX5_joinLine 15 = .ok (.astore_n 3, 1) := by decide +kernel
theorem dX5_joinLine_16 : decode cX5_joinLine 16 = .ok (.aload_n 3, 1) := by decide +kernel
theorem dX5_joinLine_17 : decode cX5_joinLine 17 = .ok (.ifnull 26, 3) := by decide +kernel
theorem dX5_joinLine_20 : decode cX5_joinLine 20 = .ok (.aload_n 3, 1) := by decide +kernel
theorem dX5_joinLine_21 : decode cX5_joinLine 21 = .ok (.getfield 117, 3) := by decide +kernel
theorem dX5_joinLine_24 : decode cX5_joinLine 24 = .ok (.aload_n 0, 1) := by decide +kernel
theorem dX5_joinLine_25 : decode cX5_joinLine 25 = .ok (.getfield 53, 3) := by decide +kernel
theorem dX5_joinLine_28 : decode cX5_joinLine 28 = .ok (.if_icmp .gt 15, 3) := by decide +kernel
theorem dX5_joinLine_31 : decode cX5_joinLine 31 = .ok (.aload_n 0, 1) := by decide +kernel
theorem dX5_joinLine_32 : decode cX5_joinLine 32 = .ok (.aload_n 3, 1) := by decide +kernel
theorem dX5_joinLine_33 : decode cX5_joinLine 33 = .ok (.getfield 110, 3) := by decide +kernel
theorem dX5_joinLine_36 : decode cX5_joinLine 36 = .ok (.invokevirtual 151, 3) := by decide +kernel
theorem dX5_joinLine_39 : decode cX5_joinLine 39 = .ok (.aload_n 3, 1) := by decide +kernel
theorem dX5_joinLine_40 : decode cX5_joinLine 40 = .ok (.invokevirtual 92, 3) := by decide +kernel
theorem dX5_joinLine_43 : decode cX5_joinLine 43 = .ok (.iinc 2 1, 3) := by decide +kernel
theorem dX5_joinLine_46 : decode cX5_joinLine 46 = .ok (.goto (-44), 3) := by decide +kernel
theorem dX5_joinLine_49 : decode cX5_joinLine 49 = .ok (.return_, 1) := by decide +kernel
theorem dX5_findLateShips_0 : decode cX5_findLateShips 0 = .ok (.iconst 0, 1) := by decide +kernel
theorem dX5_findLateShips_1 : decode cX5_findLateShips 1 = .ok (.istore_n 1, 1) := by decide +kernel
theorem dX5_findLateShips_2 : decode cX5_findLateShips 2 = .ok (.iload_n 1, 1) := by decide +kernel
theorem dX5_findLateShips_3 : decode cX5_findLateShips 3 = .ok (.aload_n 0, 1) := by decide +kernel
theorem dX5_findLateShips_4 : decode cX5_findLateShips 4 = .ok (.getfield 27, 3) := by decide +kernel
theorem dX5_findLateShips_7 : decode cX5_findLateShips 7 = .ok (.getfield 84, 3) := by decide +kernel
theorem dX5_findLateShips_10 : decode cX5_findLateShips 10 = .ok (.if_icmp .ge 46, 3) := by decide +kernel
theorem dX5_findLateShips_13 : decode cX5_findLateShips 13 = .ok (.aload_n 0, 1) := by decide +kernel
theorem dX5_findLateShips_14 : decode cX5_findLateShips 14 = .ok (.getfield 27, 3) := by decide +kernel
theorem dX5_findLateShips_17 : decode cX5_findLateShips 17 = .ok (.iload_n 1, 1) := by decide +kernel
theorem dX5_findLateShips_18 : decode cX5_findLateShips 18 = .ok (.invokevirtual 103, 3) := by decide +kernel
theorem dX5_findLateShips_21 : decode cX5_findLateShips 21 = .ok (.astore_n 2, 1) := by decide +kernel
theorem dX5_findLateShips_22 : decode cX5_findLateShips 22 = .ok (.aload_n 2, 1) := by decide +kernel
theorem dX5_findLateShips_23 : decode cX5_findLateShips 23 = .ok (.ifnull 27, 3) := by decide +kernel
theorem dX5_findLateShips_26 : decode cX5_findLateShips 26 = .ok (.aload_n 2, 1) := by decide +kernel
theorem dX5_findLateShips_27 : decode cX5_findLateShips 27 = .ok (.getfield 117, 3) := by decide +kernel
theorem dX5_findLateShips_30 : decode cX5_findLateShips 30 = .ok (.aload_n 0, 1) := by decide +kernel
theorem dX5_findLateShips_31 : decode cX5_findLateShips 31 = .ok (.getfield 53, 3) := by decide +kernel
theorem dX5_findLateShips_34 : decode cX5_findLateShips 34 = .ok (.if_icmp .ne 16, 3) := by decide +kernel
theorem dX5_findLateShips_37 : decode cX5_findLateShips 37 = .ok (.aload_n 0, 1) := by decide +kernel
theorem dX5_findLateShips_38 : decode cX5_findLateShips 38 = .ok (.aload_n 2, 1) := by decide +kernel
theorem dX5_findLateShips_39 : decode cX5_findLateShips 39 = .ok (.invokevirtual 155, 3) := by decide +kernel
theorem dX5_findLateShips_42 : decode cX5_findLateShips 42 = .ok (.ifCond .eq 8, 3) := by decide +kernel
theorem dX5_findLateShips_45 : decode cX5_findLateShips 45 = .ok (.aload_n 0, 1) := by decide +kernel
theorem dX5_findLateShips_46 : decode cX5_findLateShips 46 = .ok (.aload_n 2, 1) := by decide +kernel
theorem dX5_findLateShips_47 : decode cX5_findLateShips 47 = .ok (.invokevirtual 159, 3) := by decide +kernel
theorem dX5_findLateShips_50 : decode cX5_findLateShips 50 = .ok (.iinc 1 1, 3) := by decide +kernel
theorem dX5_findLateShips_53 : decode cX5_findLateShips 53 = .ok (.goto (-51), 3) := by decide +kernel
theorem dX5_findLateShips_56 : decode cX5_findLateShips 56 = .ok (.return_, 1) := by decide +kernel
theorem dX5_missedConvoy_0 : decode cX5_missedConvoy 0 = .ok (.aload_n 0, 1) := by decide +kernel
theorem dX5_missedConvoy_1 : decode cX5_missedConvoy 1 = .ok (.aload_n 1, 1) := by decide +kernel
theorem dX5_missedConvoy_2 : decode cX5_missedConvoy 2 = .ok (.getfield 111, 3) := by decide +kernel
theorem dX5_missedConvoy_5 : decode cX5_missedConvoy 5 = .ok (.invokevirtual 99, 3) := by decide +kernel
theorem dX5_missedConvoy_8 : decode cX5_missedConvoy 8 = .ok (.astore_n 2, 1) := by decide +kernel
theorem dX5_missedConvoy_9 : decode cX5_missedConvoy 9 = .ok (.aload_n 2, 1) := by decide +kernel
theorem dX5_missedConvoy_10 : decode cX5_missedConvoy 10 = .ok (.ifnull 18, 3) := by decide +kernel
theorem dX5_missedConvoy_13 : decode cX5_missedConvoy 13 = .ok (.aload_n 2, 1) := by decide +kernel
theorem dX5_missedConvoy_14 : decode cX5_missedConvoy 14 = .ok (.getfield 114, 3) := by decide +kernel
theorem dX5_missedConvoy_17 : decode cX5_missedConvoy 17 = .ok (.aload_n 0, 1) := by decide +kernel
theorem dX5_missedConvoy_18 : decode cX5_missedConvoy 18 = .ok (.getfield 53, 3) := by decide +kernel
theorem dX5_missedConvoy_21 : decode cX5_missedConvoy 21 = .ok (.if_icmp .ge 7, 3) := by decide +kernel
theorem dX5_missedConvoy_24 : decode cX5_missedConvoy 24 = .ok (.iconst 1, 1) := by decide +kernel
theorem dX5_missedConvoy_25 : decode cX5_missedConvoy 25 = .ok (.goto 4, 3) := by decide +kernel
theorem dX5_missedConvoy_28 : decode cX5_missedConvoy 28 = .ok (.iconst 0, 1) := by decide +kernel
theorem dX5_missedConvoy_29 : decode cX5_missedConvoy 29 = .ok (.ireturn, 1) := by decide +kernel
theorem dX5_takeLateShip_0 : decode cX5_takeLateShip 0 = .ok (.aload_n 1, 1) := by decide +kernel
theorem dX5_takeLateShip_1 : decode cX5_takeLateShip 1 = .ok (.iconst 1, 1) := by decide +kernel
theorem dX5_takeLateShip_2 : decode cX5_takeLateShip 2 = .ok (.putfield 162, 3) := by decide +kernel
theorem dX5_takeLateShip_5 : decode cX5_takeLateShip 5 = .ok (.aload_n 0, 1) := by decide +kernel
theorem dX5_takeLateShip_6 : decode cX5_takeLateShip 6 = .ok (.getfield 50, 3) := by decide +kernel
theorem dX5_takeLateShip_9 : decode cX5_takeLateShip 9 = .ok (.iconst 1, 1) := by decide +kernel
theorem dX5_takeLateShip_10 : decode cX5_takeLateShip 10 = .ok (.if_icmp .ne 16, 3) := by decide +kernel
theorem dX5_takeLateShip_13 : decode cX5_takeLateShip 13 = .ok (.aload_n 0, 1) := by decide +kernel
theorem dX5_takeLateShip_14 : decode cX5_takeLateShip 14 = .ok (.aload_n 1, 1) := by decide +kernel
theorem dX5_takeLateShip_15 : decode cX5_takeLateShip 15 = .ok (.getfield 110, 3) := by decide +kernel
theorem dX5_takeLateShip_18 : decode cX5_takeLateShip 18 = .ok (.invokevirtual 151, 3) := by decide +kernel
theorem dX5_takeLateShip_21 : decode cX5_takeLateShip 21 = .ok (.aload_n 1, 1) := by decide +kernel
theorem dX5_takeLateShip_22 : decode cX5_takeLateShip 22 = .ok (.invokevirtual 92, 3) := by decide +kernel
theorem dX5_takeLateShip_25 : decode cX5_takeLateShip 25 = .ok (.return_, 1) := by decide +kernel
theorem dX5_takeLateShip_26 : decode cX5_takeLateShip 26 = .ok (.aload_n 0, 1) := by decide +kernel
theorem dX5_takeLateShip_27 : decode cX5_takeLateShip 27 = .ok (.aload_n 1, 1) := by decide +kernel
theorem dX5_takeLateShip_28 : decode cX5_takeLateShip 28 = .ok (.getfield 110, 3) := by decide +kernel
theorem dX5_takeLateShip_31 : decode cX5_takeLateShip 31 = .ok (.invokevirtual 165, 3) := by decide +kernel
theorem dX5_takeLateShip_34 : decode cX5_takeLateShip 34 = .ok (.istore_n 2, 1) := by decide +kernel
theorem dX5_takeLateShip_35 : decode cX5_takeLateShip 35 = .ok (.aload_n 0, 1) := by decide +kernel
theorem dX5_takeLateShip_36 : decode cX5_takeLateShip 36 = .ok (.iload_n 2, 1) := by decide +kernel
theorem dX5_takeLateShip_37 : decode cX5_takeLateShip 37 = .ok (.invokevirtual 99, 3) := by decide +kernel
theorem dX5_takeLateShip_40 : decode cX5_takeLateShip 40 = .ok (.astore_n 3, 1) := by decide +kernel
theorem dX5_takeLateShip_41 : decode cX5_takeLateShip 41 = .ok (.aload_n 3, 1) := by decide +kernel
theorem dX5_takeLateShip_42 : decode cX5_takeLateShip 42 = .ok (.ifnonnull 9, 3) := by decide +kernel
theorem dX5_takeLateShip_45 : decode cX5_takeLateShip 45 = .ok (.aload_n 1, 1) := by decide +kernel
theorem dX5_takeLateShip_46 : decode cX5_takeLateShip 46 = .ok (.iconst 1, 1) := by decide +kernel
theorem dX5_takeLateShip_47 : decode cX5_takeLateShip 47 = .ok (.putfield 169, 3) := by decide +kernel
theorem dX5_takeLateShip_50 : decode cX5_takeLateShip 50 = .ok (.return_, 1) := by decide +kernel
theorem dX5_takeLateShip_51 : decode cX5_takeLateShip 51 = .ok (.aload_n 3, 1) := by decide +kernel
theorem dX5_takeLateShip_52 : decode cX5_takeLateShip 52 = .ok (.getfield 148, 3) := by decide +kernel
theorem dX5_takeLateShip_55 : decode cX5_takeLateShip 55 = .ok (.aload_n 1, 1) := by decide +kernel
theorem dX5_takeLateShip_56 : decode cX5_takeLateShip 56 = .ok (.invokevirtual 92, 3) := by decide +kernel
theorem dX5_takeLateShip_59 : decode cX5_takeLateShip 59 = .ok (.aload_n 1, 1) := by decide +kernel
theorem dX5_takeLateShip_60 : decode cX5_takeLateShip 60 = .ok (.iload_n 2, 1) := by decide +kernel
theorem dX5_takeLateShip_61 : decode cX5_takeLateShip 61 = .ok (.putfield 111, 3) := by decide +kernel
theorem dX5_takeLateShip_64 : decode cX5_takeLateShip 64 = .ok (.return_, 1) := by decide +kernel
theorem dX5_nextConvoy_0 : decode cX5_nextConvoy 0 = .ok (.bipush (-4), 2) := by decide +kernel
theorem dX5_nextConvoy_2 : decode cX5_nextConvoy 2 = .ok (.istore_n 2, 1) := by decide +kernel
theorem dX5_nextConvoy_3 : decode cX5_nextConvoy 3 = .ok (.sipush 10000, 3) := by decide +kernel
theorem dX5_nextConvoy_6 : decode cX5_nextConvoy 6 = .ok (.istore_n 3, 1) := by decide +kernel
theorem dX5_nextConvoy_7 : decode cX5_nextConvoy 7 = .ok (.iconst 0, 1) := by decide +kernel
theorem dX5_nextConvoy_8 : decode cX5_nextConvoy 8 = .ok (.istore 4, 2) := by decide +kernel
theorem dX5_nextConvoy_10 : decode cX5_nextConvoy 10 = .ok (.iload 4, 2) := by decide +kernel
theorem dX5_nextConvoy_12 : decode cX5_nextConvoy 12 = .ok (.aload_n 0, 1) := by decide +kernel
theorem dX5_nextConvoy_13 : decode cX5_nextConvoy 13 = .ok (.getfield 37, 3) := by decide +kernel
theorem dX5_nextConvoy_16 : decode cX5_nextConvoy 16 = .ok (.if_icmp .ge 61, 3) := by decide +kernel
theorem dX5_nextConvoy_19 : decode cX5_nextConvoy 19 = .ok (.aload_n 0, 1) := by decide +kernel
theorem dX5_nextConvoy_20 : decode cX5_nextConvoy 20 = .ok (.iload 4, 2) := by decide +kernel
theorem dX5_nextConvoy_22 : decode cX5_nextConvoy 22 = .ok (.invokevirtual 99, 3) := by decide +kernel
theorem dX5_nextConvoy_25 : decode cX5_nextConvoy 25 = .ok (.astore 5, 2) := by decide +kernel
theorem dX5_nextConvoy_27 : decode cX5_nextConvoy 27 = .ok (.aload 5, 2) := by decide +kernel
theorem dX5_nextConvoy_29 : decode cX5_nextConvoy 29 = .ok (.ifnull 42, 3) := by decide +kernel
theorem dX5_nextConvoy_32 : decode cX5_nextConvoy 32 = .ok (.aload 5, 2) := by decide +kernel
theorem dX5_nextConvoy_34 : decode cX5_nextConvoy 34 = .ok (.getfield 107, 3) := by decide +kernel
theorem dX5_nextConvoy_37 : decode cX5_nextConvoy 37 = .ok (.iload_n 1, 1) := by decide +kernel
theorem dX5_nextConvoy_38 : decode cX5_nextConvoy 38 = .ok (.if_icmp .ne 33, 3) := by decide +kernel
theorem dX5_nextConvoy_41 : decode cX5_nextConvoy 41 = .ok (.aload 5, 2) := by decide +kernel
theorem dX5_nextConvoy_43 : decode cX5_nextConvoy 43 = .ok (.getfield 114, 3) := by decide +kernel
theorem dX5_nextConvoy_46 : decode cX5_nextConvoy 46 = .ok (.aload_n 0, 1) := by decide +kernel
theorem dX5_nextConvoy_47 : decode cX5_nextConvoy 47 = .ok (.getfield 53, 3) := by decide +kernel
theorem dX5_nextConvoy_50 : decode cX5_nextConvoy 50 = .ok (.if_icmp .le 21, 3) := by decide +kernel
theorem dX5_nextConvoy_53 : decode cX5_nextConvoy 53 = .ok (.aload 5, 2) := by decide +kernel
theorem dX5_nextConvoy_55 : decode cX5_nextConvoy 55 = .ok (.getfield 114, 3) := by decide +kernel
theorem dX5_nextConvoy_58 : decode cX5_nextConvoy 58 = .ok (.iload_n 3, 1) := by decide +kernel
theorem dX5_nextConvoy_59 : decode cX5_nextConvoy 59 = .ok (.if_icmp .ge 12, 3) := by decide +kernel
theorem dX5_nextConvoy_62 : decode cX5_nextConvoy 62 = .ok (.iload 4, 2) := by decide +kernel
theorem dX5_nextConvoy_64 : decode cX5_nextConvoy 64 = .ok (.istore_n 2, 1) := by decide +kernel
theorem dX5_nextConvoy_65 : decode cX5_nextConvoy 65 = .ok (.aload 5, 2) := by decide +kernel
theorem dX5_nextConvoy_67 : decode cX5_nextConvoy 67 = .ok (.getfield 114, 3) := by decide +kernel
theorem dX5_nextConvoy_70 : decode cX5_nextConvoy 70 = .ok (.istore_n 3, 1) := by decide +kernel
theorem dX5_nextConvoy_71 : decode cX5_nextConvoy 71 = .ok (.iinc 4 1, 3) := by decide +kernel
theorem dX5_nextConvoy_74 : decode cX5_nextConvoy 74 = .ok (.goto (-64), 3) := by decide +kernel
theorem dX5_nextConvoy_77 : decode cX5_nextConvoy 77 = .ok (.iload_n 2, 1) := by decide +kernel
theorem dX5_nextConvoy_78 : decode cX5_nextConvoy 78 = .ok (.ireturn, 1) := by decide +kernel
theorem dX5_moveShips_0 : decode cX5_moveShips 0 = .ok (.iconst 0, 1) := by decide +kernel
theorem dX5_moveShips_1 : decode cX5_moveShips 1 = .ok (.istore_n 2, 1) := by decide +kernel
theorem dX5_moveShips_2 : decode cX5_moveShips 2 = .ok (.iload_n 2, 1) := by decide +kernel
theorem dX5_moveShips_3 : decode cX5_moveShips 3 = .ok (.bipush 8, 2) := by decide +kernel
theorem dX5_moveShips_5 : decode cX5_moveShips 5 = .ok (.if_icmp .ge 43, 3) := by decide +kernel
theorem dX5_moveShips_8 : decode cX5_moveShips 8 = .ok (.aload_n 0, 1) := by decide +kernel
theorem dX5_moveShips_9 : decode cX5_moveShips 9 = .ok (.iload_n 1, 1) := by decide +kernel
theorem dX5_moveShips_10 : decode cX5_moveShips 10 = .ok (.ifCond .ne 10, 3) := by decide +kernel
theorem dX5_moveShips_13 : decode cX5_moveShips 13 = .ok (.bipush 7, 2) := by decide +kernel
theorem dX5_moveShips_15 : decode cX5_moveShips 15 = .ok (.iload_n 2, 1) := by decide +kernel
theorem dX5_moveShips_16 : decode cX5_moveShips 16 = .ok (.isub, 1) := by decide +kernel
theorem dX5_moveShips_17 : decode cX5_moveShips 17 = .ok (.goto 4, 3) := by decide +kernel
theorem dX5_moveShips_20 : decode cX5_moveShips 20 = .ok (.iload_n 2, 1) := by decide +kernel
theorem dX5_moveShips_21 : decode cX5_moveShips 21 = .ok (.invokevirtual 57, 3) := by decide +kernel
theorem dX5_moveShips_24 : decode cX5_moveShips 24 = .ok (.astore_n 3, 1) := by decide +kernel
theorem dX5_moveShips_25 : decode cX5_moveShips 25 = .ok (.aload_n 3, 1) := by decide +kernel
theorem dX5_moveShips_26 : decode cX5_moveShips 26 = .ok (.ifnull 16, 3) := by decide +kernel
theorem dX5_moveShips_29 : decode cX5_moveShips 29 = .ok (.aload_n 0, 1) := by decide +kernel
theorem dX5_moveShips_30 : decode cX5_moveShips 30 = .ok (.aload_n 3, 1) := by decide +kernel
theorem dX5_moveShips_31 : decode cX5_moveShips 31 = .ok (.aload_n 3, 1) := by decide +kernel
theorem dX5_moveShips_32 : decode cX5_moveShips 32 = .ok (.iload_n 1, 1) := by decide +kernel
theorem dX5_moveShips_33 : decode cX5_moveShips 33 = .ok (.invokevirtual 172, 3) := by decide +kernel
theorem dX5_moveShips_36 : decode cX5_moveShips 36 = .ok (.getfield 176, 3) := by decide +kernel
theorem dX5_moveShips_39 : decode cX5_moveShips 39 = .ok (.invokevirtual 179, 3) := by decide +kernel
theorem dX5_moveShips_42 : decode cX5_moveShips 42 = .ok (.iinc 2 1, 3) := by decide +kernel
theorem dX5_moveShips_45 : decode cX5_moveShips 45 = .ok (.goto (-43), 3) := by decide +kernel
theorem dX5_moveShips_48 : decode cX5_moveShips 48 = .ok (.return_, 1) := by decide +kernel
theorem dX5_moveWithin_0 : decode cX5_moveWithin 0 = .ok (.aload_n 2, 1) := by decide +kernel
theorem dX5_moveWithin_1 : decode cX5_moveWithin 1 = .ok (.getfield 84, 3) := by decide +kernel
theorem dX5_moveWithin_4 : decode cX5_moveWithin 4 = .ok (.istore_n 3, 1) := by decide +kernel
theorem dX5_moveWithin_5 : decode cX5_moveWithin 5 = .ok (.iconst 0, 1) := by decide +kernel
theorem dX5_moveWithin_6 : decode cX5_moveWithin 6 = .ok (.istore 4, 2) := by decide +kernel
theorem dX5_moveWithin_8 : decode cX5_moveWithin 8 = .ok (.iconst 0, 1) := by decide +kernel
theorem dX5_moveWithin_9 : decode cX5_moveWithin 9 = .ok (.istore 5, 2) := by decide +kernel
theorem dX5_moveWithin_11 : decode cX5_moveWithin 11 = .ok (.iconst 0, 1) := by decide +kernel
theorem dX5_moveWithin_12 : decode cX5_moveWithin 12 = .ok (.istore 6, 2) := by decide +kernel
theorem dX5_moveWithin_14 : decode cX5_moveWithin 14 = .ok (.iload 6, 2) := by decide +kernel
theorem dX5_moveWithin_16 : decode cX5_moveWithin 16 = .ok (.iload_n 3, 1) := by decide +kernel
theorem dX5_moveWithin_17 : decode cX5_moveWithin 17 = .ok (.if_icmp .ge 94, 3) := by decide +kernel
theorem dX5_moveWithin_20 : decode cX5_moveWithin 20 = .ok (.aload_n 2, 1) := by decide +kernel
theorem dX5_moveWithin_21 : decode cX5_moveWithin 21 = .ok (.iload 4, 2) := by decide +kernel
theorem dX5_moveWithin_23 : decode cX5_moveWithin 23 = .ok (.invokevirtual 103, 3) := by decide +kernel
theorem dX5_moveWithin_26 : decode cX5_moveWithin 26 = .ok (.astore 7, 2) := by decide +kernel
theorem dX5_moveWithin_28 : decode cX5_moveWithin 28 = .ok (.aload 7, 2) := by decide +kernel
theorem dX5_moveWithin_30 : decode cX5_moveWithin 30 = .ok (.ifnonnull 4, 3) := by decide +kernel
theorem dX5_moveWithin_33 : decode cX5_moveWithin 33 = .ok (.return_, 1) := by decide +kernel
theorem dX5_moveWithin_34 : decode cX5_moveWithin 34 = .ok (.iload 5, 2) := by decide +kernel
theorem dX5_moveWithin_36 : decode cX5_moveWithin 36 = .ok (.ifCond .ne 15, 3) := by decide +kernel
theorem dX5_moveWithin_39 : decode cX5_moveWithin 39 = .ok (.aload 7, 2) := by decide +kernel
theorem dX5_moveWithin_41 : decode cX5_moveWithin 41 = .ok (.aload_n 0, 1) := by decide +kernel
theorem dX5_moveWithin_42 : decode cX5_moveWithin 42 = .ok (.getfield 53, 3) := by decide +kernel
theorem dX5_moveWithin_45 : decode cX5_moveWithin 45 = .ok (.invokevirtual 126, 3) := by decide +kernel
theorem dX5_moveWithin_48 : decode cX5_moveWithin 48 = .ok (.ifCond .eq 7, 3) := by decide +kernel
theorem dX5_moveWithin_51 : decode cX5_moveWithin 51 = .ok (.iconst 1, 1) := by decide +kernel
theorem dX5_moveWithin_52 : decode cX5_moveWithin 52 = .ok (.goto 4, 3) := by decide +kernel
theorem dX5_moveWithin_55 : decode cX5_moveWithin 55 = .ok (.iconst 0, 1) := by decide +kernel
theorem dX5_moveWithin_56 : decode cX5_moveWithin 56 = .ok (.istore 5, 2) := by decide +kernel
theorem dX5_moveWithin_58 : decode cX5_moveWithin 58 = .ok (.iload 5, 2) := by decide +kernel
theorem dX5_moveWithin_60 : decode cX5_moveWithin 60 = .ok (.ifCond .eq 15, 3) := by decide +kernel
theorem dX5_moveWithin_63 : decode cX5_moveWithin 63 = .ok (.aload 7, 2) := by decide +kernel
theorem dX5_moveWithin_65 : decode cX5_moveWithin 65 = .ok (.iconst 0, 1) := by decide +kernel
theorem dX5_moveWithin_66 : decode cX5_moveWithin 66 = .ok (.invokevirtual 183, 3) := by decide +kernel
theorem dX5_moveWithin_69 : decode cX5_moveWithin 69 = .ok (.iinc 4 1, 3) := by decide +kernel
theorem dX5_moveWithin_72 : decode cX5_moveWithin 72 = .ok (.goto 33, 3) := by decide +kernel
theorem dX5_moveWithin_75 : decode cX5_moveWithin 75 = .ok (.aload_n 0, 1) := by decide +kernel
theorem dX5_moveWithin_76 : decode cX5_moveWithin 76 = .ok (.aload 7, 2) := by decide +kernel
theorem dX5_moveWithin_78 : decode cX5_moveWithin 78 = .ok (.aload_n 1, 1) := by decide +kernel
theorem dX5_moveWithin_79 : decode cX5_moveWithin 79 = .ok (.iload 4, 2) := by decide +kernel
theorem dX5_moveWithin_81 : decode cX5_moveWithin 81 = .ok (.ifCond .ne 7, 3) := by decide +kernel
theorem dX5_moveWithin_84 : decode cX5_moveWithin 84 = .ok (.iconst 1, 1) := by decide +kernel
theorem dX5_moveWithin_85 : decode cX5_moveWithin 85 = .ok (.goto 4, 3) := by decide +kernel
theorem dX5_moveWithin_88 : decode cX5_moveWithin 88 = .ok (.iconst 0, 1) := by decide +kernel
theorem dX5_moveWithin_89 : decode cX5_moveWithin 89 = .ok (.invokevirtual 186, 3) := by decide +kernel
theorem dX5_moveWithin_92 : decode cX5_moveWithin 92 = .ok (.ifCond .eq 10, 3) := by decide +kernel
theorem dX5_moveWithin_95 : decode cX5_moveWithin 95 = .ok (.aload_n 2, 1) := by decide +kernel
theorem dX5_moveWithin_96 : decode cX5_moveWithin 96 = .ok (.invokevirtual 190, 3) := by decide +kernel
theorem dX5_moveWithin_99 : decode cX5_moveWithin 99 = .ok (.goto 6, 3) := by decide +kernel
theorem dX5_moveWithin_102 : decode cX5_moveWithin 102 = .ok (.iinc 4 1, 3) := by decide +kernel
theorem dX5_moveWithin_105 : decode cX5_moveWithin 105 = .ok (.iinc 6 1, 3) := by decide +kernel
theorem dX5_moveWithin_108 : decode cX5_moveWithin 108 = .ok (.goto (-94), 3) := by decide +kernel
theorem dX5_moveWithin_111 : decode cX5_moveWithin 111 = .ok (.return_, 1) := by decide +kernel
theorem dX5_leaves_0 : decode cX5_leaves 0 = .ok (.aload_n 1, 1) := by decide +kernel
theorem dX5_leaves_1 : decode cX5_leaves 1 = .ok (.getfield 193, 3) := by decide +kernel
theorem dX5_leaves_4 : decode cX5_leaves 4 = .ok (.ifCond .le 13, 3) := by decide +kernel
theorem dX5_leaves_7 : decode cX5_leaves 7 = .ok (.aload_n 1, 1) := by decide +kernel
theorem dX5_leaves_8 : decode cX5_leaves 8 = .ok (.dup, 1) := by decide +kernel
theorem dX5_leaves_9 : decode cX5_leaves 9 = .ok (.getfield 193, 3) := by decide +kernel
theorem dX5_leaves_12 : decode cX5_leaves 12 = .ok (.iconst 1, 1) := by decide +kernel
theorem dX5_leaves_13 : decode cX5_leaves 13 = .ok (.isub, 1) := by decide +kernel
theorem dX5_leaves_14 : decode cX5_leaves 14 = .ok (.putfield 193, 3) := by decide +kernel
theorem dX5_leaves_17 : decode cX5_leaves 17 = .ok (.aload_n 1, 1) := by decide +kernel
theorem dX5_leaves_18 : decode cX5_leaves 18 = .ok (.getfield 193, 3) := by decide +kernel
theorem dX5_leaves_21 : decode cX5_leaves 21 = .ok (.ifCond .le 5, 3) := by decide +kernel
theorem dX5_leaves_24 : decode cX5_leaves 24 = .ok (.iconst 0, 1) := by decide +kernel
theorem dX5_leaves_25 : decode cX5_leaves 25 = .ok (.ireturn, 1) := by decide +kernel
theorem dX5_leaves_26 : decode cX5_leaves 26 = .ok (.iload_n 3, 1) := by decide +kernel
theorem dX5_leaves_27 : decode cX5_leaves 27 = .ok (.ifCond .ne 11, 3) := by decide +kernel
theorem dX5_leaves_30 : decode cX5_leaves 30 = .ok (.aload_n 1, 1) := by decide +kernel
theorem dX5_leaves_31 : decode cX5_leaves 31 = .ok (.bipush 6, 2) := by decide +kernel
theorem dX5_leaves_33 : decode cX5_leaves 33 = .ok (.invokevirtual 183, 3) := by decide +kernel
theorem dX5_leaves_36 : decode cX5_leaves 36 = .ok (.iconst 0, 1) := by decide +kernel
theorem dX5_leaves_37 : decode cX5_leaves 37 = .ok (.ireturn, 1) := by decide +kernel
theorem dX5_leaves_38 : decode cX5_leaves 38 = .ok (.aload_n 0, 1) := by decide +kernel
theorem dX5_leaves_39 : decode cX5_leaves 39 = .ok (.aload_n 1, 1) := by decide +kernel
theorem dX5_leaves_40 : decode cX5_leaves 40 = .ok (.getfield 110, 3) := by decide +kernel
theorem dX5_leaves_43 : decode cX5_leaves 43 = .ok (.ifCond .ne 12, 3) := by decide +kernel
theorem dX5_leaves_46 : decode cX5_leaves 46 = .ok (.aload_n 2, 1) := by decide +kernel
theorem dX5_leaves_47 : decode cX5_leaves 47 = .ok (.getfield 196, 3) := by decide +kernel
theorem dX5_leaves_50 : decode cX5_leaves 50 = .ok (.iconst 1, 1) := by decide +kernel
theorem dX5_leaves_51 : decode cX5_leaves 51 = .ok (.iadd, 1) := by decide +kernel
theorem dX5_leaves_52 : decode cX5_leaves 52 = .ok (.goto 9, 3) := by decide +kernel
theorem dX5_leaves_55 : decode cX5_leaves 55 = .ok (.aload_n 2, 1) := by decide +kernel
theorem dX5_leaves_56 : decode cX5_leaves 56 = .ok (.getfield 196, 3) := by decide +kernel
theorem dX5_leaves_59 : decode cX5_leaves 59 = .ok (.iconst 1, 1) := by decide +kernel
theorem dX5_leaves_60 : decode cX5_leaves 60 = .ok (.isub, 1) := by decide +kernel
theorem dX5_leaves_61 : decode cX5_leaves 61 = .ok (.invokevirtual 57, 3) := by decide +kernel
theorem dX5_leaves_64 : decode cX5_leaves 64 = .ok (.astore 4, 2) := by decide +kernel
theorem dX5_leaves_66 : decode cX5_leaves 66 = .ok (.aload 4, 2) := by decide +kernel
theorem dX5_leaves_68 : decode cX5_leaves 68 = .ok (.ifnonnull 19, 3) := by decide +kernel
theorem dX5_leaves_71 : decode cX5_leaves 71 = .ok (.aload_n 1, 1) := by decide +kernel
theorem dX5_leaves_72 : decode cX5_leaves 72 = .ok (.bipush 8, 2) := by decide +kernel
theorem dX5_leaves_74 : decode cX5_leaves 74 = .ok (.putfield 199, 3) := by decide +kernel
theorem dX5_leaves_77 : decode cX5_leaves 77 = .ok (.aload_n 1, 1) := by decide +kernel
theorem dX5_leaves_78 : decode cX5_leaves 78 = .ok (.aload_n 0, 1) := by decide +kernel
theorem dX5_leaves_79 : decode cX5_leaves 79 = .ok (.getfield 53, 3) := by decide +kernel
theorem dX5_leaves_82 : decode cX5_leaves 82 = .ok (.putfield 202, 3) := by decide +kernel
theorem dX5_leaves_85 : decode cX5_leaves 85 = .ok (.iconst 1, 1) := by decide +kernel
theorem dX5_leaves_86 : decode cX5_leaves 86 = .ok (.ireturn, 1) := by decide +kernel
theorem dX5_leaves_87 : decode cX5_leaves 87 = .ok (.aload_n 0, 1) := by decide +kernel
theorem dX5_leaves_88 : decode cX5_leaves 88 = .ok (.aload_n 1, 1) := by decide +kernel
theorem dX5_leaves_89 : decode cX5_leaves 89 = .ok (.aload 4, 2) := by decide +kernel
theorem dX5_leaves_91 : decode cX5_leaves 91 = .ok (.aload_n 0, 1) := by decide +kernel
theorem dX5_leaves_92 : decode cX5_leaves 92 = .ok (.aload_n 1, 1) := by decide +kernel
theorem dX5_leaves_93 : decode cX5_leaves 93 = .ok (.aload 4, 2) := by decide +kernel
theorem dX5_leaves_95 : decode cX5_leaves 95 = .ok (.invokevirtual 205, 3) := by decide +kernel
theorem dX5_leaves_98 : decode cX5_leaves 98 = .ok (.invokevirtual 209, 3) := by decide +kernel
theorem dX5_leaves_101 : decode cX5_leaves 101 = .ok (.ireturn, 1) := by decide +kernel
theorem dX5_letFirstIn_0 : decode cX5_letFirstIn 0 = .ok (.aload_n 0, 1) := by decide +kernel
theorem dX5_letFirstIn_1 : decode cX5_letFirstIn 1 = .ok (.iload_n 1, 1) := by decide +kernel
theorem dX5_letFirstIn_2 : decode cX5_letFirstIn 2 = .ok (.invokevirtual 151, 3) := by decide +kernel
theorem dX5_letFirstIn_5 : decode cX5_letFirstIn 5 = .ok (.astore_n 2, 1) := by decide +kernel
theorem dX5_letFirstIn_6 : decode cX5_letFirstIn 6 = .ok (.aload_n 2, 1) := by decide +kernel
theorem dX5_letFirstIn_7 : decode cX5_letFirstIn 7 = .ok (.iconst 0, 1) := by decide +kernel
theorem dX5_letFirstIn_8 : decode cX5_letFirstIn 8 = .ok (.invokevirtual 103, 3) := by decide +kernel
theorem dX5_letFirstIn_11 : decode cX5_letFirstIn 11 = .ok (.astore_n 3, 1) := by decide +kernel
theorem dX5_letFirstIn_12 : decode cX5_letFirstIn 12 = .ok (.aload_n 0, 1) := by decide +kernel
theorem dX5_letFirstIn_13 : decode cX5_letFirstIn 13 = .ok (.iload_n 1, 1) := by decide +kernel
theorem dX5_letFirstIn_14 : decode cX5_letFirstIn 14 = .ok (.ifCond .ne 7, 3) := by decide +kernel
theorem dX5_letFirstIn_17 : decode cX5_letFirstIn 17 = .ok (.iconst 0, 1) := by decide +kernel
theorem dX5_letFirstIn_18 : decode cX5_letFirstIn 18 = .ok (.goto 5, 3) := by decide +kernel
theorem dX5_letFirstIn_21 : decode cX5_letFirstIn 21 = .ok (.bipush 7, 2) := by decide +kernel
theorem dX5_letFirstIn_23 : decode cX5_letFirstIn 23 = .ok (.invokevirtual 57, 3) := by decide +kernel
theorem dX5_letFirstIn_26 : decode cX5_letFirstIn 26 = .ok (.astore 4, 2) := by decide +kernel
theorem dX5_letFirstIn_28 : decode cX5_letFirstIn 28 = .ok (.aload_n 3, 1) := by decide +kernel
theorem dX5_letFirstIn_29 : decode cX5_letFirstIn 29 = .ok (.ifnull 8, 3) := by decide +kernel
theorem dX5_letFirstIn_32 : decode cX5_letFirstIn 32 = .ok (.aload 4, 2) := by decide +kernel
theorem dX5_letFirstIn_34 : decode cX5_letFirstIn 34 = .ok (.ifnonnull 4, 3) := by decide +kernel
theorem dX5_letFirstIn_37 : decode cX5_letFirstIn 37 = .ok (.return_, 1) := by decide +kernel
theorem dX5_letFirstIn_38 : decode cX5_letFirstIn 38 = .ok (.iconst 1, 1) := by decide +kernel
theorem dX5_letFirstIn_39 : decode cX5_letFirstIn 39 = .ok (.istore 5, 2) := by decide +kernel
theorem dX5_letFirstIn_41 : decode cX5_letFirstIn 41 = .ok (.iload 5, 2) := by decide +kernel
theorem dX5_letFirstIn_43 : decode cX5_letFirstIn 43 = .ok (.aload_n 2, 1) := by decide +kernel
theorem dX5_letFirstIn_44 : decode cX5_letFirstIn 44 = .ok (.getfield 84, 3) := by decide +kernel
theorem dX5_letFirstIn_47 : decode cX5_letFirstIn 47 = .ok (.if_icmp .ge 29, 3) := by decide +kernel
theorem dX5_letFirstIn_50 : decode cX5_letFirstIn 50 = .ok (.aload_n 2, 1) := by decide +kernel
theorem dX5_letFirstIn_51 : decode cX5_letFirstIn 51 = .ok (.iload 5, 2) := by decide +kernel
theorem dX5_letFirstIn_53 : decode cX5_letFirstIn 53 = .ok (.invokevirtual 103, 3) := by decide +kernel
theorem dX5_letFirstIn_56 : decode cX5_letFirstIn 56 = .ok (.astore 6, 2) := by decide +kernel
theorem dX5_letFirstIn_58 : decode cX5_letFirstIn 58 = .ok (.aload 6, 2) := by decide +kernel
theorem dX5_letFirstIn_60 : decode cX5_letFirstIn 60 = .ok (.ifnull 10, 3) := by decide +kernel
theorem dX5_letFirstIn_63 : decode cX5_letFirstIn 63 = .ok (.aload 6, 2) := by decide +kernel
theorem dX5_letFirstIn_65 : decode cX5_letFirstIn 65 = .ok (.bipush 6, 2) := by decide +kernel
theorem dX5_letFirstIn_67 : decode cX5_letFirstIn 67 = .ok (.invokevirtual 183, 3) := by decide +kernel
theorem dX5_letFirstIn_70 : decode cX5_letFirstIn 70 = .ok (.iinc 5 1, 3) := by decide +kernel
theorem dX5_letFirstIn_73 : decode cX5_letFirstIn 73 = .ok (.goto (-32), 3) := by decide +kernel
theorem dX5_letFirstIn_76 : decode cX5_letFirstIn 76 = .ok (.aload_n 0, 1) := by decide +kernel
theorem dX5_letFirstIn_77 : decode cX5_letFirstIn 77 = .ok (.aload_n 3, 1) := by decide +kernel
theorem dX5_letFirstIn_78 : decode cX5_letFirstIn 78 = .ok (.aload 4, 2) := by decide +kernel
theorem dX5_letFirstIn_80 : decode cX5_letFirstIn 80 = .ok (.aload_n 0, 1) := by decide +kernel
theorem dX5_letFirstIn_81 : decode cX5_letFirstIn 81 = .ok (.aload_n 3, 1) := by decide +kernel
theorem dX5_letFirstIn_82 : decode cX5_letFirstIn 82 = .ok (.aload 4, 2) := by decide +kernel
theorem dX5_letFirstIn_84 : decode cX5_letFirstIn 84 = .ok (.invokevirtual 205, 3) := by decide +kernel
theorem dX5_letFirstIn_87 : decode cX5_letFirstIn 87 = .ok (.invokevirtual 209, 3) := by decide +kernel
theorem dX5_letFirstIn_90 : decode cX5_letFirstIn 90 = .ok (.ifCond .eq 15, 3) := by decide +kernel
theorem dX5_letFirstIn_93 : decode cX5_letFirstIn 93 = .ok (.aload_n 3, 1) := by decide +kernel
theorem dX5_letFirstIn_94 : decode cX5_letFirstIn 94 = .ok (.aload_n 0, 1) := by decide +kernel
theorem dX5_letFirstIn_95 : decode cX5_letFirstIn 95 = .ok (.getfield 53, 3) := by decide +kernel
theorem dX5_letFirstIn_98 : decode cX5_letFirstIn 98 = .ok (.putfield 213, 3) := by decide +kernel
theorem dX5_letFirstIn_101 : decode cX5_letFirstIn 101 = .ok (.aload_n 2, 1) := by decide +kernel
theorem dX5_letFirstIn_102 : decode cX5_letFirstIn 102 = .ok (.invokevirtual 190, 3) := by decide +kernel
theorem dX5_letFirstIn_105 : decode cX5_letFirstIn 105 = .ok (.return_, 1) := by decide +kernel
theorem dX5_comesInto_0 : decode cX5_comesInto 0 = .ok (.iload_n 3, 1) := by decide +kernel
theorem dX5_comesInto_1 : decode cX5_comesInto 1 = .ok (.bipush (-4), 2) := by decide +kernel
theorem dX5_comesInto_3 : decode cX5_comesInto 3 = .ok (.if_icmp .eq 10, 3) := by decide +kernel
theorem dX5_comesInto_6 : decode cX5_comesInto 6 = .ok (.aload_n 1, 1) := by decide +kernel
theorem dX5_comesInto_7 : decode cX5_comesInto 7 = .ok (.iload_n 3, 1) := by decide +kernel
theorem dX5_comesInto_8 : decode cX5_comesInto 8 = .ok (.invokevirtual 183, 3) := by decide +kernel
theorem dX5_comesInto_11 : decode cX5_comesInto 11 = .ok (.iconst 0, 1) := by decide +kernel
theorem dX5_comesInto_12 : decode cX5_comesInto 12 = .ok (.ireturn, 1) := by decide +kernel
theorem dX5_comesInto_13 : decode cX5_comesInto 13 = .ok (.aload_n 2, 1) := by decide +kernel
theorem dX5_comesInto_14 : decode cX5_comesInto 14 = .ok (.aload_n 1, 1) := by decide +kernel
theorem dX5_comesInto_15 : decode cX5_comesInto 15 = .ok (.getfield 110, 3) := by decide +kernel
theorem dX5_comesInto_18 : decode cX5_comesInto 18 = .ok (.invokevirtual 172, 3) := by decide +kernel
theorem dX5_comesInto_21 : decode cX5_comesInto 21 = .ok (.astore 4, 2) := by decide +kernel
theorem dX5_comesInto_23 : decode cX5_comesInto 23 = .ok (.aload 4, 2) := by decide +kernel
theorem dX5_comesInto_25 : decode cX5_comesInto 25 = .ok (.getfield 176, 3) := by decide +kernel
theorem dX5_comesInto_28 : decode cX5_comesInto 28 = .ok (.aload_n 1, 1) := by decide +kernel
theorem dX5_comesInto_29 : decode cX5_comesInto 29 = .ok (.invokevirtual 92, 3) := by decide +kernel
theorem dX5_comesInto_32 : decode cX5_comesInto 32 = .ok (.aload 4, 2) := by decide +kernel
theorem dX5_comesInto_34 : decode cX5_comesInto 34 = .ok (.aload_n 0, 1) := by decide +kernel
theorem dX5_comesInto_35 : decode cX5_comesInto 35 = .ok (.getfield 53, 3) := by decide +kernel
theorem dX5_comesInto_38 : decode cX5_comesInto 38 = .ok (.putfield 216, 3) := by decide +kernel
theorem dX5_comesInto_41 : decode cX5_comesInto 41 = .ok (.aload_n 1, 1) := by decide +kernel
theorem dX5_comesInto_42 : decode cX5_comesInto 42 = .ok (.aload_n 2, 1) := by decide +kernel
theorem dX5_comesInto_43 : decode cX5_comesInto 43 = .ok (.getfield 196, 3) := by decide +kernel
theorem dX5_comesInto_46 : decode cX5_comesInto 46 = .ok (.putfield 199, 3) := by decide +kernel
theorem dX5_comesInto_49 : decode cX5_comesInto 49 = .ok (.aload_n 1, 1) := by decide +kernel
theorem dX5_comesInto_50 : decode cX5_comesInto 50 = .ok (.aload_n 1, 1) := by decide +kernel
theorem dX5_comesInto_51 : decode cX5_comesInto 51 = .ok (.getfield 219, 3) := by decide +kernel
theorem dX5_comesInto_54 : decode cX5_comesInto 54 = .ok (.ifCond .eq 12, 3) := by decide +kernel
theorem dX5_comesInto_57 : decode cX5_comesInto 57 = .ok (.iconst 2, 1) := by decide +kernel
theorem dX5_comesInto_58 : decode cX5_comesInto 58 = .ok (.aload_n 2, 1) := by decide +kernel
theorem dX5_comesInto_59 : decode cX5_comesInto 59 = .ok (.getfield 65, 3) := by decide +kernel
theorem dX5_comesInto_62 : decode cX5_comesInto 62 = .ok (.imul, 1) := by decide +kernel
theorem dX5_comesInto_63 : decode cX5_comesInto 63 = .ok (.goto 7, 3) := by decide +kernel
theorem dX5_comesInto_66 : decode cX5_comesInto 66 = .ok (.aload_n 2, 1) := by decide +kernel
theorem dX5_comesInto_67 : decode cX5_comesInto 67 = .ok (.getfield 65, 3) := by decide +kernel
theorem dX5_comesInto_70 : decode cX5_comesInto 70 = .ok (.putfield 193, 3) := by decide +kernel
theorem dX5_comesInto_73 : decode cX5_comesInto 73 = .ok (.iconst 1, 1) := by decide +kernel
theorem dX5_comesInto_74 : decode cX5_comesInto 74 = .ok (.ireturn, 1) := by decide +kernel
theorem dX5_causeAgainst_0 : decode cX5_causeAgainst 0 = .ok (.aload_n 2, 1) := by decide +kernel
theorem dX5_causeAgainst_1 : decode cX5_causeAgainst 1 = .ok (.getfield 222, 3) := by decide +kernel
theorem dX5_causeAgainst_4 : decode cX5_causeAgainst 4 = .ok (.getfield 176, 3) := by decide +kernel
theorem dX5_causeAgainst_7 : decode cX5_causeAgainst 7 = .ok (.aload_n 0, 1) := by decide +kernel
theorem dX5_causeAgainst_8 : decode cX5_causeAgainst 8 = .ok (.getfield 53, 3) := by decide +kernel
theorem dX5_causeAgainst_11 : decode cX5_causeAgainst 11 = .ok (.invokevirtual 226, 3) := by decide +kernel
theorem dX5_causeAgainst_14 : decode cX5_causeAgainst 14 = .ok (.ifCond .ne 20, 3) := by decide +kernel
theorem dX5_causeAgainst_17 : decode cX5_causeAgainst 17 = .ok (.aload_n 2, 1) := by decide +kernel
theorem dX5_causeAgainst_18 : decode cX5_causeAgainst 18 = .ok (.getfield 229, 3) := by decide +kernel
theorem dX5_causeAgainst_21 : decode cX5_causeAgainst 21 = .ok (.getfield 176, 3) := by decide +kernel
theorem dX5_causeAgainst_24 : decode cX5_causeAgainst 24 = .ok (.aload_n 0, 1) := by decide +kernel
theorem dX5_causeAgainst_25 : decode cX5_causeAgainst 25 = .ok (.getfield 53, 3) := by decide +kernel
theorem dX5_causeAgainst_28 : decode cX5_causeAgainst 28 = .ok (.invokevirtual 226, 3) := by decide +kernel
theorem dX5_causeAgainst_31 : decode cX5_causeAgainst 31 = .ok (.ifCond .eq 5, 3) := by decide +kernel
theorem dX5_causeAgainst_34 : decode cX5_causeAgainst 34 = .ok (.iconst 0, 1) := by decide +kernel
theorem dX5_causeAgainst_35 : decode cX5_causeAgainst 35 = .ok (.ireturn, 1) := by decide +kernel
theorem dX5_causeAgainst_36 : decode cX5_causeAgainst 36 = .ok (.aload_n 1, 1) := by decide +kernel
theorem dX5_causeAgainst_37 : decode cX5_causeAgainst 37 = .ok (.getfield 110, 3) := by decide +kernel
theorem dX5_causeAgainst_40 : decode cX5_causeAgainst 40 = .ok (.ifCond .ne 7, 3) := by decide +kernel
theorem dX5_causeAgainst_43 : decode cX5_causeAgainst 43 = .ok (.iconst 1, 1) := by decide +kernel
theorem dX5_causeAgainst_44 : decode cX5_causeAgainst 44 = .ok (.goto 4, 3) := by decide +kernel
theorem dX5_causeAgainst_47 : decode cX5_causeAgainst 47 = .ok (.iconst 0, 1) := by decide +kernel
theorem dX5_causeAgainst_48 : decode cX5_causeAgainst 48 = .ok (.istore_n 3, 1) := by decide +kernel
theorem dX5_causeAgainst_49 : decode cX5_causeAgainst 49 = .ok (.aload_n 0, 1) := by decide +kernel
theorem dX5_causeAgainst_50 : decode cX5_causeAgainst 50 = .ok (.aload_n 2, 1) := by decide +kernel
theorem dX5_causeAgainst_51 : decode cX5_causeAgainst 51 = .ok (.getfield 196, 3) := by decide +kernel
theorem dX5_causeAgainst_54 : decode cX5_causeAgainst 54 = .ok (.iconst 1, 1) := by decide +kernel
theorem dX5_causeAgainst_55 : decode cX5_causeAgainst 55 = .ok (.iload_n 3, 1) := by decide +kernel
theorem dX5_causeAgainst_56 : decode cX5_causeAgainst 56 = .ok (.invokevirtual 232, 3) := by decide +kernel
theorem dX5_causeAgainst_59 : decode cX5_causeAgainst 59 = .ok (.ifCond .ne 16, 3) := by decide +kernel
theorem dX5_causeAgainst_62 : decode cX5_causeAgainst 62 = .ok (.aload_n 0, 1) := by decide +kernel
theorem dX5_causeAgainst_63 : decode cX5_causeAgainst 63 = .ok (.aload_n 2, 1) := by decide +kernel
theorem dX5_causeAgainst_64 : decode cX5_causeAgainst 64 = .ok (.getfield 196, 3) := by decide +kernel
theorem dX5_causeAgainst_67 : decode cX5_causeAgainst 67 = .ok (.iconst (-1), 1) := by decide +kernel
theorem dX5_causeAgainst_68 : decode cX5_causeAgainst 68 = .ok (.iload_n 3, 1) := by decide +kernel
theorem dX5_causeAgainst_69 : decode cX5_causeAgainst 69 = .ok (.invokevirtual 232, 3) := by decide +kernel
theorem dX5_causeAgainst_72 : decode cX5_causeAgainst 72 = .ok (.ifCond .eq 5, 3) := by decide +kernel
theorem dX5_causeAgainst_75 : decode cX5_causeAgainst 75 = .ok (.iconst 1, 1) := by decide +kernel
theorem dX5_causeAgainst_76 : decode cX5_causeAgainst 76 = .ok (.ireturn, 1) := by decide +kernel
theorem dX5_causeAgainst_77 : decode cX5_causeAgainst 77 = .ok (.aload_n 2, 1) := by decide +kernel
theorem dX5_causeAgainst_78 : decode cX5_causeAgainst 78 = .ok (.aload_n 1, 1) := by decide +kernel
theorem dX5_causeAgainst_79 : decode cX5_causeAgainst 79 = .ok (.getfield 110, 3) := by decide +kernel
theorem dX5_causeAgainst_82 : decode cX5_causeAgainst 82 = .ok (.invokevirtual 172, 3) := by decide +kernel
theorem dX5_causeAgainst_85 : decode cX5_causeAgainst 85 = .ok (.astore 4, 2) := by decide +kernel
theorem dX5_causeAgainst_87 : decode cX5_causeAgainst 87 = .ok (.aload 4, 2) := by decide +kernel
theorem dX5_causeAgainst_89 : decode cX5_causeAgainst 89 = .ok (.getfield 176, 3) := by decide +kernel
theorem dX5_causeAgainst_92 : decode cX5_causeAgainst 92 = .ok (.invokevirtual 80, 3) := by decide +kernel
theorem dX5_causeAgainst_95 : decode cX5_causeAgainst 95 = .ok (.ifCond .eq 5, 3) := by decide +kernel
theorem dX5_causeAgainst_98 : decode cX5_causeAgainst 98 = .ok (.iconst 2, 1) := by decide +kernel
theorem dX5_causeAgainst_99 : decode cX5_causeAgainst 99 = .ok (.ireturn, 1) := by decide +kernel
theorem dX5_causeAgainst_100 : decode cX5_causeAgainst 100 = .ok (.aload_n 0, 1) := by decide +kernel
theorem dX5_causeAgainst_101 : decode cX5_causeAgainst 101 = .ok (.getfield 53, 3) := by decide +kernel
theorem dX5_causeAgainst_104 : decode cX5_causeAgainst 104 = .ok (.aload 4, 2) := by decide +kernel
theorem dX5_causeAgainst_106 : decode cX5_causeAgainst 106 = .ok (.getfield 216, 3) := by decide +kernel
theorem dX5_causeAgainst_109 : decode cX5_causeAgainst 109 = .ok (.isub, 1) := by decide +kernel
theorem dX5_causeAgainst_110 : decode cX5_causeAgainst 110 = .ok (.aload_n 0, 1) := by decide +kernel
theorem dX5_causeAgainst_111 : decode cX5_causeAgainst 111 = .ok (.getfield 47, 3) := by decide +kernel
theorem dX5_causeAgainst_114 : decode cX5_causeAgainst 114 = .ok (.if_icmp .ge 5, 3) := by decide +kernel
theorem dX5_causeAgainst_117 : decode cX5_causeAgainst 117 = .ok (.iconst 3, 1) := by decide +kernel
theorem dX5_causeAgainst_118 : decode cX5_causeAgainst 118 = .ok (.ireturn, 1) := by decide +kernel
theorem dX5_causeAgainst_119 : decode cX5_causeAgainst 119 = .ok (.aload_n 1, 1) := by decide +kernel
theorem dX5_causeAgainst_120 : decode cX5_causeAgainst 120 = .ok (.getfield 235, 3) := by decide +kernel
theorem dX5_causeAgainst_123 : decode cX5_causeAgainst 123 = .ok (.aload_n 0, 1) := by decide +kernel
theorem dX5_causeAgainst_124 : decode cX5_causeAgainst 124 = .ok (.aload_n 2, 1) := by decide +kernel
theorem dX5_causeAgainst_125 : decode cX5_causeAgainst 125 = .ok (.invokevirtual 238, 3) := by decide +kernel
theorem dX5_causeAgainst_128 : decode cX5_causeAgainst 128 = .ok (.if_icmp .le 5, 3) := by decide +kernel
theorem dX5_causeAgainst_131 : decode cX5_causeAgainst 131 = .ok (.iconst 4, 1) := by decide +kernel
theorem dX5_causeAgainst_132 : decode cX5_causeAgainst 132 = .ok (.ireturn, 1) := by decide +kernel
theorem dX5_causeAgainst_133 : decode cX5_causeAgainst 133 = .ok (.aload_n 1, 1) := by decide +kernel
theorem dX5_causeAgainst_134 : decode cX5_causeAgainst 134 = .ok (.getfield 242, 3) := by decide +kernel
theorem dX5_causeAgainst_137 : decode cX5_causeAgainst 137 = .ok (.ifCond .eq 19, 3) := by decide +kernel
theorem dX5_causeAgainst_140 : decode cX5_causeAgainst 140 = .ok (.aload_n 2, 1) := by decide +kernel
theorem dX5_causeAgainst_141 : decode cX5_causeAgainst 141 = .ok (.getfield 71, 3) := by decide +kernel
theorem dX5_causeAgainst_144 : decode cX5_causeAgainst 144 = .ok (.ifCond .ne 12, 3) := by decide +kernel
theorem dX5_causeAgainst_147 : decode cX5_causeAgainst 147 = .ok (.aload_n 0, 1) := by decide +kernel
theorem dX5_causeAgainst_148 : decode cX5_causeAgainst 148 = .ok (.invokevirtual 245, 3) := by decide +kernel
theorem dX5_causeAgainst_151 : decode cX5_causeAgainst 151 = .ok (.ifCond .eq 5, 3) := by decide +kernel
theorem dX5_causeAgainst_154 : decode cX5_causeAgainst 154 = .ok (.iconst 5, 1) := by decide +kernel
theorem dX5_causeAgainst_155 : decode cX5_causeAgainst 155 = .ok (.ireturn, 1) := by decide +kernel
theorem dX5_causeAgainst_156 : decode cX5_causeAgainst 156 = .ok (.bipush (-4), 2) := by decide +kernel
theorem dX5_causeAgainst_158 : decode cX5_causeAgainst 158 = .ok (.ireturn, 1) := by decide +kernel
theorem dX5_reachesShip_0 : decode cX5_reachesShip 0 = .ok (.iload_n 1, 1) := by decide +kernel
theorem dX5_reachesShip_1 : decode cX5_reachesShip 1 = .ok (.istore 4, 2) := by decide +kernel
theorem dX5_reachesShip_3 : decode cX5_reachesShip 3 = .ok (.iconst 0, 1) := by decide +kernel
theorem dX5_reachesShip_4 : decode cX5_reachesShip 4 = .ok (.istore 5, 2) := by decide +kernel
theorem dX5_reachesShip_6 : decode cX5_reachesShip 6 = .ok (.iload 5, 2) := by decide +kernel
theorem dX5_reachesShip_8 : decode cX5_reachesShip 8 = .ok (.bipush 8, 2) := by decide +kernel
theorem dX5_reachesShip_10 : decode cX5_reachesShip 10 = .ok (.if_icmp .ge 55, 3) := by decide +kernel
theorem dX5_reachesShip_13 : decode cX5_reachesShip 13 = .ok (.aload_n 0, 1) := by decide +kernel
theorem dX5_reachesShip_14 : decode cX5_reachesShip 14 = .ok (.iload 4, 2) := by decide +kernel
theorem dX5_reachesShip_16 : decode cX5_reachesShip 16 = .ok (.invokevirtual 57, 3) := by decide +kernel
theorem dX5_reachesShip_19 : decode cX5_reachesShip 19 = .ok (.astore 6, 2) := by decide +kernel
theorem dX5_reachesShip_21 : decode cX5_reachesShip 21 = .ok (.aload 6, 2) := by decide +kernel
theorem dX5_reachesShip_23 : decode cX5_reachesShip 23 = .ok (.ifnull 11, 3) := by decide +kernel
theorem dX5_reachesShip_26 : decode cX5_reachesShip 26 = .ok (.aload 6, 2) := by decide +kernel
theorem dX5_reachesShip_28 : decode cX5_reachesShip 28 = .ok (.getfield 71, 3) := by decide +kernel
theorem dX5_reachesShip_31 : decode cX5_reachesShip 31 = .ok (.ifCond .eq 5, 3) := by decide +kernel
theorem dX5_reachesShip_34 : decode cX5_reachesShip 34 = .ok (.iconst 0, 1) := by decide +kernel
theorem dX5_reachesShip_35 : decode cX5_reachesShip 35 = .ok (.ireturn, 1) := by decide +kernel
theorem dX5_reachesShip_36 : decode cX5_reachesShip 36 = .ok (.aload 6, 2) := by decide +kernel
theorem dX5_reachesShip_38 : decode cX5_reachesShip 38 = .ok (.iload_n 3, 1) := by decide +kernel
theorem dX5_reachesShip_39 : decode cX5_reachesShip 39 = .ok (.invokevirtual 172, 3) := by decide +kernel
theorem dX5_reachesShip_42 : decode cX5_reachesShip 42 = .ok (.getfield 176, 3) := by decide +kernel
theorem dX5_reachesShip_45 : decode cX5_reachesShip 45 = .ok (.getfield 84, 3) := by decide +kernel
theorem dX5_reachesShip_48 : decode cX5_reachesShip 48 = .ok (.ifCond .le 5, 3) := by decide +kernel
theorem dX5_reachesShip_51 : decode cX5_reachesShip 51 = .ok (.iconst 1, 1) := by decide +kernel
theorem dX5_reachesShip_52 : decode cX5_reachesShip 52 = .ok (.ireturn, 1) := by decide +kernel
theorem dX5_reachesShip_53 : decode cX5_reachesShip 53 = .ok (.iload 4, 2) := by decide +kernel
theorem dX5_reachesShip_55 : decode cX5_reachesShip 55 = .ok (.iload_n 2, 1) := by decide +kernel
theorem dX5_reachesShip_56 : decode cX5_reachesShip 56 = .ok (.iadd, 1) := by decide +kernel
theorem dX5_reachesShip_57 : decode cX5_reachesShip 57 = .ok (.istore 4, 2) := by decide +kernel
theorem dX5_reachesShip_59 : decode cX5_reachesShip 59 = .ok (.iinc 5 1, 3) := by decide +kernel
theorem dX5_reachesShip_62 : decode cX5_reachesShip 62 = .ok (.goto (-56), 3) := by decide +kernel
theorem dX5_reachesShip_65 : decode cX5_reachesShip 65 = .ok (.iconst 0, 1) := by decide +kernel
theorem dX5_reachesShip_66 : decode cX5_reachesShip 66 = .ok (.ireturn, 1) := by decide +kernel
theorem dX5_depthNow_0 : decode cX5_depthNow 0 = .ok (.aload_n 1, 1) := by decide +kernel
theorem dX5_depthNow_1 : decode cX5_depthNow 1 = .ok (.getfield 196, 3) := by decide +kernel
theorem dX5_depthNow_4 : decode cX5_depthNow 4 = .ok (.ifCond .eq 12, 3) := by decide +kernel
theorem dX5_depthNow_7 : decode cX5_depthNow 7 = .ok (.aload_n 1, 1) := by decide +kernel
theorem dX5_depthNow_8 : decode cX5_depthNow 8 = .ok (.getfield 196, 3) := by decide +kernel
theorem dX5_depthNow_11 : decode cX5_depthNow 11 = .ok (.bipush 7, 2) := by decide +kernel
theorem dX5_depthNow_13 : decode cX5_depthNow 13 = .ok (.if_icmp .ne 7, 3) := by decide +kernel
theorem dX5_depthNow_16 : decode cX5_depthNow 16 = .ok (.iconst 1, 1) := by decide +kernel
theorem dX5_depthNow_17 : decode cX5_depthNow 17 = .ok (.goto 4, 3) := by decide +kernel
theorem dX5_depthNow_20 : decode cX5_depthNow 20 = .ok (.iconst 0, 1) := by decide +kernel
theorem dX5_depthNow_21 : decode cX5_depthNow 21 = .ok (.istore_n 2, 1) := by decide +kernel
theorem dX5_depthNow_22 : decode cX5_depthNow 22 = .ok (.iload_n 2, 1) := by decide +kernel
theorem dX5_depthNow_23 : decode cX5_depthNow 23 = .ok (.ifCond .eq 19, 3) := by decide +kernel
theorem dX5_depthNow_26 : decode cX5_depthNow 26 = .ok (.aload_n 1, 1) := by decide +kernel
theorem dX5_depthNow_27 : decode cX5_depthNow 27 = .ok (.getfield 68, 3) := by decide +kernel
theorem dX5_depthNow_30 : decode cX5_depthNow 30 = .ok (.aload_n 0, 1) := by decide +kernel
theorem dX5_depthNow_31 : decode cX5_depthNow 31 = .ok (.aload_n 0, 1) := by decide +kernel
theorem dX5_depthNow_32 : decode cX5_depthNow 32 = .ok (.getfield 15, 3) := by decide +kernel
theorem dX5_depthNow_35 : decode cX5_depthNow 35 = .ok (.invokevirtual 248, 3) := by decide +kernel
theorem dX5_depthNow_38 : decode cX5_depthNow 38 = .ok (.iadd, 1) := by decide +kernel
theorem dX5_depthNow_39 : decode cX5_depthNow 39 = .ok (.goto 7, 3) := by decide +kernel
theorem dX5_depthNow_42 : decode cX5_depthNow 42 = .ok (.aload_n 1, 1) := by decide +kernel
theorem dX5_depthNow_43 : decode cX5_depthNow 43 = .ok (.getfield 68, 3) := by decide +kernel
theorem dX5_depthNow_46 : decode cX5_depthNow 46 = .ok (.ireturn, 1) := by decide +kernel
theorem dX5_windBarsGreat_0 : decode cX5_windBarsGreat 0 = .ok (.aload_n 0, 1) := by decide +kernel
theorem dX5_windBarsGreat_1 : decode cX5_windBarsGreat 1 = .ok (.aload_n 0, 1) := by decide +kernel
theorem dX5_windBarsGreat_2 : decode cX5_windBarsGreat 2 = .ok (.getfield 19, 3) := by decide +kernel
theorem dX5_windBarsGreat_5 : decode cX5_windBarsGreat 5 = .ok (.invokevirtual 248, 3) := by decide +kernel
theorem dX5_windBarsGreat_8 : decode cX5_windBarsGreat 8 = .ok (.istore_n 1, 1) := by decide +kernel
theorem dX5_windBarsGreat_9 : decode cX5_windBarsGreat 9 = .ok (.iload_n 1, 1) := by decide +kernel
theorem dX5_windBarsGreat_10 : decode cX5_windBarsGreat 10 = .ok (.iconst (-1), 1) := by decide +kernel
theorem dX5_windBarsGreat_11 : decode cX5_windBarsGreat 11 = .ok (.if_icmp .eq 9, 3) := by decide +kernel
theorem dX5_windBarsGreat_14 : decode cX5_windBarsGreat 14 = .ok (.iload_n 1, 1) := by decide +kernel
theorem dX5_windBarsGreat_15 : decode cX5_windBarsGreat 15 = .ok (.bipush 6, 2) := by decide +kernel
theorem dX5_windBarsGreat_17 : decode cX5_windBarsGreat 17 = .ok (.if_icmp .le 7, 3) := by decide +kernel
theorem dX5_windBarsGreat_20 : decode cX5_windBarsGreat 20 = .ok (.iconst 1, 1) := by decide +kernel
theorem dX5_windBarsGreat_21 : decode cX5_windBarsGreat 21 = .ok (.goto 4, 3) := by decide +kernel
theorem dX5_windBarsGreat_24 : decode cX5_windBarsGreat 24 = .ok (.iconst 0, 1) := by decide +kernel
theorem dX5_windBarsGreat_25 : decode cX5_windBarsGreat 25 = .ok (.ireturn, 1) := by decide +kernel
theorem dX5_ofThisHour_0 : decode cX5_ofThisHour 0 = .ok (.aload_n 0, 1) := by decide +kernel
theorem dX5_ofThisHour_1 : decode cX5_ofThisHour 1 = .ok (.getfield 53, 3) := by decide +kernel
theorem dX5_ofThisHour_4 : decode cX5_ofThisHour 4 = .ok (.bipush 60, 2) := by decide +kernel
theorem dX5_ofThisHour_6 : decode cX5_ofThisHour 6 = .ok (.idiv, 1) := by decide +kernel
theorem dX5_ofThisHour_7 : decode cX5_ofThisHour 7 = .ok (.bipush 24, 2) := by decide +kernel
theorem dX5_ofThisHour_9 : decode cX5_ofThisHour 9 = .ok (.irem, 1) := by decide +kernel
theorem dX5_ofThisHour_10 : decode cX5_ofThisHour 10 = .ok (.istore_n 2, 1) := by decide +kernel
theorem dX5_ofThisHour_11 : decode cX5_ofThisHour 11 = .ok (.iload_n 2, 1) := by decide +kernel
theorem dX5_ofThisHour_12 : decode cX5_ofThisHour 12 = .ok (.ifCond .lt 15, 3) := by decide +kernel
theorem dX5_ofThisHour_15 : decode cX5_ofThisHour 15 = .ok (.iload_n 2, 1) := by decide +kernel
theorem dX5_ofThisHour_16 : decode cX5_ofThisHour 16 = .ok (.aload_n 1, 1) := by decide +kernel
theorem dX5_ofThisHour_17 : decode cX5_ofThisHour 17 = .ok (.arraylength, 1) := by decide +kernel
theorem dX5_ofThisHour_18 : decode cX5_ofThisHour 18 = .ok (.if_icmp .ge 9, 3) := by decide +kernel
theorem dX5_ofThisHour_21 : decode cX5_ofThisHour 21 = .ok (.aload_n 1, 1) := by decide +kernel
theorem dX5_ofThisHour_22 : decode cX5_ofThisHour 22 = .ok (.iload_n 2, 1) := by decide +kernel
theorem dX5_ofThisHour_23 : decode cX5_ofThisHour 23 = .ok (.iaload, 1) := by decide +kernel
theorem dX5_ofThisHour_24 : decode cX5_ofThisHour 24 = .ok (.goto 4, 3) := by decide +kernel
theorem dX5_ofThisHour_27 : decode cX5_ofThisHour 27 = .ok (.iconst 0, 1) := by decide +kernel
theorem dX5_ofThisHour_28 : decode cX5_ofThisHour 28 = .ok (.ireturn, 1) := by decide +kernel
theorem dX5_told_0 : decode cX5_told 0 = .ok (.aload_n 0, 1) := by decide +kernel
theorem dX5_told_1 : decode cX5_told 1 = .ok (.getfield 27, 3) := by decide +kernel
theorem dX5_told_4 : decode cX5_told 4 = .ok (.iload_n 1, 1) := by decide +kernel
theorem dX5_told_5 : decode cX5_told 5 = .ok (.invokevirtual 103, 3) := by decide +kernel
theorem dX5_told_8 : decode cX5_told 8 = .ok (.astore_n 3, 1) := by decide +kernel
theorem dX5_told_9 : decode cX5_told 9 = .ok (.aload_n 3, 1) := by decide +kernel
theorem dX5_told_10 : decode cX5_told 10 = .ok (.ifnonnull 6, 3) := by decide +kernel
theorem dX5_told_13 : decode cX5_told 13 = .ok (.bipush (-9), 2) := by decide +kernel
theorem dX5_told_15 : decode cX5_told 15 = .ok (.ireturn, 1) := by decide +kernel
theorem dX5_told_16 : decode cX5_told 16 = .ok (.iload_n 2, 1) := by decide +kernel
theorem dX5_told_17 : decode cX5_told 17 = .ok (.tableswitch 132 0 8 #[51, 56, 61, 74, 87, 92, 97, 102, 127], 51) := by decide +kernel
theorem dX5_told_68 : decode cX5_told 68 = .ok (.aload_n 3, 1) := by decide +kernel
theorem dX5_told_69 : decode cX5_told 69 = .ok (.getfield 199, 3) := by decide +kernel
theorem dX5_told_72 : decode cX5_told 72 = .ok (.ireturn, 1) := by decide +kernel
theorem dX5_told_73 : decode cX5_told 73 = .ok (.aload_n 3, 1) := by decide +kernel
theorem dX5_told_74 : decode cX5_told 74 = .ok (.getfield 193, 3) := by decide +kernel
theorem dX5_told_77 : decode cX5_told 77 = .ok (.ireturn, 1) := by decide +kernel
theorem dX5_told_78 : decode cX5_told 78 = .ok (.aload_n 3, 1) := by decide +kernel
theorem dX5_told_79 : decode cX5_told 79 = .ok (.getfield 162, 3) := by decide +kernel
theorem dX5_told_82 : decode cX5_told 82 = .ok (.ifCond .eq 7, 3) := by decide +kernel
theorem dX5_told_85 : decode cX5_told 85 = .ok (.iconst 1, 1) := by decide +kernel
theorem dX5_told_86 : decode cX5_told 86 = .ok (.goto 4, 3) := by decide +kernel
theorem dX5_told_89 : decode cX5_told 89 = .ok (.iconst 0, 1) := by decide +kernel
theorem dX5_told_90 : decode cX5_told 90 = .ok (.ireturn, 1) := by decide +kernel
theorem dX5_told_91 : decode cX5_told 91 = .ok (.aload_n 3, 1) := by decide +kernel
theorem dX5_told_92 : decode cX5_told 92 = .ok (.getfield 169, 3) := by decide +kernel
theorem dX5_told_95 : decode cX5_told 95 = .ok (.ifCond .eq 7, 3) := by decide +kernel
theorem dX5_told_98 : decode cX5_told 98 = .ok (.iconst 1, 1) := by decide +kernel
theorem dX5_told_99 : decode cX5_told 99 = .ok (.goto 4, 3) := by decide +kernel
theorem dX5_told_102 : decode cX5_told 102 = .ok (.iconst 0, 1) := by decide +kernel
theorem dX5_told_103 : decode cX5_told 103 = .ok (.ireturn, 1) := by decide +kernel
theorem dX5_told_104 : decode cX5_told 104 = .ok (.aload_n 3, 1) := by decide +kernel
theorem dX5_told_105 : decode cX5_told 105 = .ok (.getfield 213, 3) := by decide +kernel
theorem dX5_told_108 : decode cX5_told 108 = .ok (.ireturn, 1) := by decide +kernel
theorem dX5_told_109 : decode cX5_told 109 = .ok (.aload_n 3, 1) := by decide +kernel
theorem dX5_told_110 : decode cX5_told 110 = .ok (.getfield 202, 3) := by decide +kernel
theorem dX5_told_113 : decode cX5_told 113 = .ok (.ireturn, 1) := by decide +kernel
theorem dX5_told_114 : decode cX5_told 114 = .ok (.aload_n 3, 1) := by decide +kernel
theorem dX5_told_115 : decode cX5_told 115 = .ok (.invokevirtual 252, 3) := by decide +kernel
theorem dX5_told_118 : decode cX5_told 118 = .ok (.ireturn, 1) := by decide +kernel
theorem dX5_told_119 : decode cX5_told 119 = .ok (.aload_n 3, 1) := by decide +kernel
theorem dX5_told_120 : decode cX5_told 120 = .ok (.aload_n 0, 1) := by decide +kernel
theorem dX5_told_121 : decode cX5_told 121 = .ok (.getfield 53, 3) := by decide +kernel
theorem dX5_told_124 : decode cX5_told 124 = .ok (.invokevirtual 126, 3) := by decide +kernel
theorem dX5_told_127 : decode cX5_told 127 = .ok (.ifCond .eq 15, 3) := by decide +kernel
theorem dX5_told_130 : decode cX5_told 130 = .ok (.aload_n 3, 1) := by decide +kernel
theorem dX5_told_131 : decode cX5_told 131 = .ok (.getfield 129, 3) := by decide +kernel
theorem dX5_told_134 : decode cX5_told 134 = .ok (.aload_n 0, 1) := by decide +kernel
theorem dX5_told_135 : decode cX5_told 135 = .ok (.getfield 53, 3) := by decide +kernel
theorem dX5_told_138 : decode cX5_told 138 = .ok (.isub, 1) := by decide +kernel
theorem dX5_told_139 : decode cX5_told 139 = .ok (.goto 4, 3) := by decide +kernel
theorem dX5_told_142 : decode cX5_told 142 = .ok (.iconst 0, 1) := by decide +kernel
theorem dX5_told_143 : decode cX5_told 143 = .ok (.ireturn, 1) := by decide +kernel
theorem dX5_told_144 : decode cX5_told 144 = .ok (.aload_n 3, 1) := by decide +kernel
theorem dX5_told_145 : decode cX5_told 145 = .ok (.getfield 111, 3) := by decide +kernel
theorem dX5_told_148 : decode cX5_told 148 = .ok (.ireturn, 1) := by decide +kernel
theorem dX5_told_149 : decode cX5_told 149 = .ok (.bipush (-9), 2) := by decide +kernel
theorem dX5_told_151 : decode cX5_told 151 = .ok (.ireturn, 1) := by decide +kernel
theorem dX5_waited_0 : decode cX5_waited 0 = .ok (.aload_n 0, 1) := by decide +kernel
theorem dX5_waited_1 : decode cX5_waited 1 = .ok (.getfield 27, 3) := by decide +kernel
theorem dX5_waited_4 : decode cX5_waited 4 = .ok (.iload_n 1, 1) := by decide +kernel
theorem dX5_waited_5 : decode cX5_waited 5 = .ok (.invokevirtual 103, 3) := by decide +kernel
theorem dX5_waited_8 : decode cX5_waited 8 = .ok (.astore_n 3, 1) := by decide +kernel
theorem dX5_waited_9 : decode cX5_waited 9 = .ok (.aload_n 3, 1) := by decide +kernel
theorem dX5_waited_10 : decode cX5_waited 10 = .ok (.ifnull 13, 3) := by decide +kernel
theorem dX5_waited_13 : decode cX5_waited 13 = .ok (.iload_n 2, 1) := by decide +kernel
theorem dX5_waited_14 : decode cX5_waited 14 = .ok (.iconst (-1), 1) := by decide +kernel
theorem dX5_waited_15 : decode cX5_waited 15 = .ok (.bipush 6, 2) := by decide +kernel
theorem dX5_waited_17 : decode cX5_waited 17 = .ok (.invokestatic 61, 3) := by decide +kernel
theorem dX5_waited_20 : decode cX5_waited 20 = .ok (.ifCond .ne 5, 3) := by decide +kernel
theorem dX5_waited_23 : decode cX5_waited 23 = .ok (.iconst (-1), 1) := by decide +kernel
theorem dX5_waited_24 : decode cX5_waited 24 = .ok (.ireturn, 1) := by decide +kernel
theorem dX5_waited_25 : decode cX5_waited 25 = .ok (.iload_n 2, 1) := by decide +kernel
theorem dX5_waited_26 : decode cX5_waited 26 = .ok (.iconst (-1), 1) := by decide +kernel
theorem dX5_waited_27 : decode cX5_waited 27 = .ok (.if_icmp .ne 10, 3) := by decide +kernel
theorem dX5_waited_30 : decode cX5_waited 30 = .ok (.aload_n 3, 1) := by decide +kernel
theorem dX5_waited_31 : decode cX5_waited 31 = .ok (.invokevirtual 256, 3) := by decide +kernel
theorem dX5_waited_34 : decode cX5_waited 34 = .ok (.goto 9, 3) := by decide +kernel
theorem dX5_waited_37 : decode cX5_waited 37 = .ok (.aload_n 3, 1) := by decide +kernel
theorem dX5_waited_38 : decode cX5_waited 38 = .ok (.getfield 259, 3) := by decide +kernel
theorem dX5_waited_41 : decode cX5_waited 41 = .ok (.iload_n 2, 1) := by decide +kernel
theorem dX5_waited_42 : decode cX5_waited 42 = .ok (.iaload, 1) := by decide +kernel
theorem dX5_waited_43 : decode cX5_waited 43 = .ok (.ireturn, 1) := by decide +kernel
theorem dX5_line_0 : decode cX5_line 0 = .ok (.iload_n 1, 1) := by decide +kernel
theorem dX5_line_1 : decode cX5_line 1 = .ok (.invokestatic 75, 3) := by decide +kernel
theorem dX5_line_4 : decode cX5_line 4 = .ok (.ifCond .eq 7, 3) := by decide +kernel
theorem dX5_line_7 : decode cX5_line 7 = .ok (.iload_n 2, 1) := by decide +kernel
theorem dX5_line_8 : decode cX5_line 8 = .ok (.ifCond .ge 5, 3) := by decide +kernel
theorem dX5_line_11 : decode cX5_line 11 = .ok (.iconst (-1), 1) := by decide +kernel
theorem dX5_line_12 : decode cX5_line 12 = .ok (.ireturn, 1) := by decide +kernel
theorem dX5_line_13 : decode cX5_line 13 = .ok (.aload_n 0, 1) := by decide +kernel
theorem dX5_line_14 : decode cX5_line 14 = .ok (.iload_n 1, 1) := by decide +kernel
theorem dX5_line_15 : decode cX5_line 15 = .ok (.invokevirtual 151, 3) := by decide +kernel
theorem dX5_line_18 : decode cX5_line 18 = .ok (.iload_n 2, 1) := by decide +kernel
theorem dX5_line_19 : decode cX5_line 19 = .ok (.invokevirtual 262, 3) := by decide +kernel
theorem dX5_line_22 : decode cX5_line 22 = .ok (.ireturn, 1) := by decide +kernel
theorem dX5_in_0 : decode cX5_in 0 = .ok (.aload_n 0, 1) := by decide +kernel
theorem dX5_in_1 : decode cX5_in 1 = .ok (.iload_n 1, 1) := by decide +kernel
theorem dX5_in_2 : decode cX5_in 2 = .ok (.invokevirtual 57, 3) := by decide +kernel
theorem dX5_in_5 : decode cX5_in 5 = .ok (.astore 4, 2) := by decide +kernel
theorem dX5_in_7 : decode cX5_in 7 = .ok (.aload 4, 2) := by decide +kernel
theorem dX5_in_9 : decode cX5_in 9 = .ok (.ifnull 14, 3) := by decide +kernel
theorem dX5_in_12 : decode cX5_in 12 = .ok (.iload_n 2, 1) := by decide +kernel
theorem dX5_in_13 : decode cX5_in 13 = .ok (.invokestatic 75, 3) := by decide +kernel
theorem dX5_in_16 : decode cX5_in 16 = .ok (.ifCond .eq 7, 3) := by decide +kernel
theorem dX5_in_19 : decode cX5_in 19 = .ok (.iload_n 3, 1) := by decide +kernel
theorem dX5_in_20 : decode cX5_in 20 = .ok (.ifCond .ge 5, 3) := by decide +kernel
theorem dX5_in_23 : decode cX5_in 23 = .ok (.iconst (-1), 1) := by decide +kernel
theorem dX5_in_24 : decode cX5_in 24 = .ok (.ireturn, 1) := by decide +kernel
theorem dX5_in_25 : decode cX5_in 25 = .ok (.aload 4, 2) := by decide +kernel
theorem dX5_in_27 : decode cX5_in 27 = .ok (.iload_n 2, 1) := by decide +kernel
theorem dX5_in_28 : decode cX5_in 28 = .ok (.invokevirtual 172, 3) := by decide +kernel
theorem dX5_in_31 : decode cX5_in 31 = .ok (.getfield 176, 3) := by decide +kernel
theorem dX5_in_34 : decode cX5_in 34 = .ok (.iload_n 3, 1) := by decide +kernel
theorem dX5_in_35 : decode cX5_in 35 = .ok (.invokevirtual 262, 3) := by decide +kernel
theorem dX5_in_38 : decode cX5_in 38 = .ok (.ireturn, 1) := by decide +kernel
theorem dX5_count_0 : decode cX5_count 0 = .ok (.iload_n 1, 1) := by decide +kernel
theorem dX5_count_1 : decode cX5_count 1 = .ok (.tableswitch 76 0 7 #[47, 55, 60, 65, 65, 65, 65, 71], 47) := by decide +kernel
theorem dX5_count_48 : decode cX5_count 48 = .ok (.aload_n 0, 1) := by decide +kernel
theorem dX5_count_49 : decode cX5_count 49 = .ok (.getfield 27, 3) := by decide +kernel
theorem dX5_count_52 : decode cX5_count 52 = .ok (.getfield 84, 3) := by decide +kernel
theorem dX5_count_55 : decode cX5_count 55 = .ok (.ireturn, 1) := by decide +kernel
theorem dX5_count_56 : decode cX5_count 56 = .ok (.aload_n 0, 1) := by decide +kernel
theorem dX5_count_57 : decode cX5_count 57 = .ok (.getfield 37, 3) := by decide +kernel
theorem dX5_count_60 : decode cX5_count 60 = .ok (.ireturn, 1) := by decide +kernel
theorem dX5_count_61 : decode cX5_count 61 = .ok (.aload_n 0, 1) := by decide +kernel
theorem dX5_count_62 : decode cX5_count 62 = .ok (.getfield 53, 3) := by decide +kernel
theorem dX5_count_65 : decode cX5_count 65 = .ok (.ireturn, 1) := by decide +kernel
theorem dX5_count_66 : decode cX5_count 66 = .ok (.aload_n 0, 1) := by decide +kernel
theorem dX5_count_67 : decode cX5_count 67 = .ok (.iload_n 1, 1) := by decide +kernel
theorem dX5_count_68 : decode cX5_count 68 = .ok (.invokevirtual 265, 3) := by decide +kernel
theorem dX5_count_71 : decode cX5_count 71 = .ok (.ireturn, 1) := by decide +kernel
theorem dX5_count_72 : decode cX5_count 72 = .ok (.aload_n 0, 1) := by decide +kernel
theorem dX5_count_73 : decode cX5_count 73 = .ok (.invokevirtual 268, 3) := by decide +kernel
theorem dX5_count_76 : decode cX5_count 76 = .ok (.ireturn, 1) := by decide +kernel
theorem dX5_count_77 : decode cX5_count 77 = .ok (.iconst (-1), 1) := by decide +kernel
theorem dX5_count_78 : decode cX5_count 78 = .ok (.ireturn, 1) := by decide +kernel
theorem dX5_shipsThat_0 : decode cX5_shipsThat 0 = .ok (.iconst 0, 1) := by decide +kernel
theorem dX5_shipsThat_1 : decode cX5_shipsThat 1 = .ok (.istore_n 2, 1) := by decide +kernel
theorem dX5_shipsThat_2 : decode cX5_shipsThat 2 = .ok (.iconst 0, 1) := by decide +kernel
theorem dX5_shipsThat_3 : decode cX5_shipsThat 3 = .ok (.istore_n 3, 1) := by decide +kernel
theorem dX5_shipsThat_4 : decode cX5_shipsThat 4 = .ok (.iload_n 3, 1) := by decide +kernel
theorem dX5_shipsThat_5 : decode cX5_shipsThat 5 = .ok (.aload_n 0, 1) := by decide +kernel
theorem dX5_shipsThat_6 : decode cX5_shipsThat 6 = .ok (.getfield 27, 3) := by decide +kernel
theorem dX5_shipsThat_9 : decode cX5_shipsThat 9 = .ok (.getfield 84, 3) := by decide +kernel
theorem dX5_shipsThat_12 : decode cX5_shipsThat 12 = .ok (.if_icmp .ge 36, 3) := by decide +kernel
theorem dX5_shipsThat_15 : decode cX5_shipsThat 15 = .ok (.aload_n 0, 1) := by decide +kernel
theorem dX5_shipsThat_16 : decode cX5_shipsThat 16 = .ok (.getfield 27, 3) := by decide +kernel
theorem dX5_shipsThat_19 : decode cX5_shipsThat 19 = .ok (.iload_n 3, 1) := by decide +kernel
theorem dX5_shipsThat_20 : decode cX5_shipsThat 20 = .ok (.invokevirtual 103, 3) := by decide +kernel
theorem dX5_shipsThat_23 : decode cX5_shipsThat 23 = .ok (.astore 4, 2) := by decide +kernel
theorem dX5_shipsThat_25 : decode cX5_shipsThat 25 = .ok (.aload 4, 2) := by decide +kernel
theorem dX5_shipsThat_27 : decode cX5_shipsThat 27 = .ok (.ifnull 15, 3) := by decide +kernel
theorem dX5_shipsThat_30 : decode cX5_shipsThat 30 = .ok (.aload 4, 2) := by decide +kernel
theorem dX5_shipsThat_32 : decode cX5_shipsThat 32 = .ok (.iload_n 1, 1) := by decide +kernel
theorem dX5_shipsThat_33 : decode cX5_shipsThat 33 = .ok (.invokevirtual 271, 3) := by decide +kernel
theorem dX5_shipsThat_36 : decode cX5_shipsThat 36 = .ok (.ifCond .eq 6, 3) := by decide +kernel
theorem dX5_shipsThat_39 : decode cX5_shipsThat 39 = .ok (.iinc 2 1, 3) := by decide +kernel
theorem dX5_shipsThat_42 : decode cX5_shipsThat 42 = .ok (.iinc 3 1, 3) := by decide +kernel
theorem dX5_shipsThat_45 : decode cX5_shipsThat 45 = .ok (.goto (-41), 3) := by decide +kernel
theorem dX5_shipsThat_48 : decode cX5_shipsThat 48 = .ok (.iload_n 2, 1) := by decide +kernel
theorem dX5_shipsThat_49 : decode cX5_shipsThat 49 = .ok (.ireturn, 1) := by decide +kernel
theorem dX5_mostWaysInOneSection_0 : decode cX5_mostWaysInOneSection 0 = .ok (.iconst 0, 1) := by decide +kernel
theorem dX5_mostWaysInOneSection_1 : decode cX5_mostWaysInOneSection 1 = .ok (.istore_n 1, 1) := by decide +kernel
theorem dX5_mostWaysInOneSection_2 : decode cX5_mostWaysInOneSection 2 = .ok (.iconst 0, 1) := by decide +kernel
theorem dX5_mostWaysInOneSection_3 : decode cX5_mostWaysInOneSection 3 = .ok (.istore_n 2, 1) := by decide +kernel
theorem dX5_mostWaysInOneSection_4 : decode cX5_mostWaysInOneSection 4 = .ok (.iload_n 2, 1) := by decide +kernel
theorem dX5_mostWaysInOneSection_5 : decode cX5_mostWaysInOneSection 5 = .ok (.bipush 8, 2) := by decide +kernel
theorem dX5_mostWaysInOneSection_7 : decode cX5_mostWaysInOneSection 7 = .ok (.if_icmp .ge 35, 3) := by decide +kernel
theorem dX5_mostWaysInOneSection_10 : decode cX5_mostWaysInOneSection 10 = .ok (.aload_n 0, 1) := by decide +kernel
theorem dX5_mostWaysInOneSection_11 : decode cX5_mostWaysInOneSection 11 = .ok (.iload_n 2, 1) := by decide +kernel
theorem dX5_mostWaysInOneSection_12 : decode cX5_mostWaysInOneSection 12 = .ok (.invokevirtual 57, 3) := by decide +kernel
theorem dX5_mostWaysInOneSection_15 : decode cX5_mostWaysInOneSection 15 = .ok (.astore_n 3, 1) := by decide +kernel
theorem dX5_mostWaysInOneSection_16 : decode cX5_mostWaysInOneSection 16 = .ok (.aload_n 3, 1) := by decide +kernel
theorem dX5_mostWaysInOneSection_17 : decode cX5_mostWaysInOneSection 17 = .ok (.ifnull 19, 3) := by decide +kernel
theorem dX5_mostWaysInOneSection_20 : decode cX5_mostWaysInOneSection 20 = .ok (.aload_n 3, 1) := by decide +kernel
theorem dX5_mostWaysInOneSection_21 : decode cX5_mostWaysInOneSection 21 = .ok (.getfield 71, 3) := by decide +kernel
theorem dX5_mostWaysInOneSection_24 : decode cX5_mostWaysInOneSection 24 = .ok (.ifCond .ne 12, 3) := by decide +kernel
theorem dX5_mostWaysInOneSection_27 : decode cX5_mostWaysInOneSection 27 = .ok (.iload_n 1, 1) := by decide +kernel
theorem dX5_mostWaysInOneSection_28 : decode cX5_mostWaysInOneSection 28 = .ok (.aload_n 3, 1) := by decide +kernel
theorem dX5_mostWaysInOneSection_29 : decode cX5_mostWaysInOneSection 29 = .ok (.invokevirtual 274, 3) := by decide +kernel
theorem dX5_mostWaysInOneSection_32 : decode cX5_mostWaysInOneSection 32 = .ok (.invokestatic 277, 3) := by decide +kernel
theorem dX5_mostWaysInOneSection_35 : decode cX5_mostWaysInOneSection 35 = .ok (.istore_n 1, 1) := by decide +kernel
theorem dX5_mostWaysInOneSection_36 : decode cX5_mostWaysInOneSection 36 = .ok (.iinc 2 1, 3) := by decide +kernel
theorem dX5_mostWaysInOneSection_39 : decode cX5_mostWaysInOneSection 39 = .ok (.goto (-35), 3) := by decide +kernel
theorem dX5_mostWaysInOneSection_42 : decode cX5_mostWaysInOneSection 42 = .ok (.iload_n 1, 1) := by decide +kernel
theorem dX5_mostWaysInOneSection_43 : decode cX5_mostWaysInOneSection 43 = .ok (.ireturn, 1) := by decide +kernel
theorem dX5_sectionAt_0 : decode cX5_sectionAt 0 = .ok (.iload_n 1, 1) := by decide +kernel
theorem dX5_sectionAt_1 : decode cX5_sectionAt 1 = .ok (.ifCond .lt 18, 3) := by decide +kernel
theorem dX5_sectionAt_4 : decode cX5_sectionAt 4 = .ok (.iload_n 1, 1) := by decide +kernel
theorem dX5_sectionAt_5 : decode cX5_sectionAt 5 = .ok (.bipush 8, 2) := by decide +kernel
theorem dX5_sectionAt_7 : decode cX5_sectionAt 7 = .ok (.if_icmp .ge 12, 3) := by decide +kernel
theorem dX5_sectionAt_10 : decode cX5_sectionAt 10 = .ok (.aload_n 0, 1) := by decide +kernel
theorem dX5_sectionAt_11 : decode cX5_sectionAt 11 = .ok (.getfield 11, 3) := by decide +kernel
theorem dX5_sectionAt_14 : decode cX5_sectionAt 14 = .ok (.iload_n 1, 1) := by decide +kernel
theorem dX5_sectionAt_15 : decode cX5_sectionAt 15 = .ok (.aaload, 1) := by decide +kernel
theorem dX5_sectionAt_16 : decode cX5_sectionAt 16 = .ok (.goto 4, 3) := by decide +kernel
theorem dX5_sectionAt_19 : decode cX5_sectionAt 19 = .ok (.aconst_null, 1) := by decide +kernel
theorem dX5_sectionAt_20 : decode cX5_sectionAt 20 = .ok (.areturn, 1) := by decide +kernel
theorem dX5_convoyAt_0 : decode cX5_convoyAt 0 = .ok (.iload_n 1, 1) := by decide +kernel
theorem dX5_convoyAt_1 : decode cX5_convoyAt 1 = .ok (.ifCond .lt 20, 3) := by decide +kernel
theorem dX5_convoyAt_4 : decode cX5_convoyAt 4 = .ok (.iload_n 1, 1) := by decide +kernel
theorem dX5_convoyAt_5 : decode cX5_convoyAt 5 = .ok (.aload_n 0, 1) := by decide +kernel
theorem dX5_convoyAt_6 : decode cX5_convoyAt 6 = .ok (.getfield 37, 3) := by decide +kernel
theorem dX5_convoyAt_9 : decode cX5_convoyAt 9 = .ok (.if_icmp .ge 12, 3) := by decide +kernel
theorem dX5_convoyAt_12 : decode cX5_convoyAt 12 = .ok (.aload_n 0, 1) := by decide +kernel
theorem dX5_convoyAt_13 : decode cX5_convoyAt 13 = .ok (.getfield 33, 3) := by decide +kernel
theorem dX5_convoyAt_16 : decode cX5_convoyAt 16 = .ok (.iload_n 1, 1) := by decide +kernel
theorem dX5_convoyAt_17 : decode cX5_convoyAt 17 = .ok (.aaload, 1) := by decide +kernel
theorem dX5_convoyAt_18 : decode cX5_convoyAt 18 = .ok (.goto 4, 3) := by decide +kernel
theorem dX5_convoyAt_21 : decode cX5_convoyAt 21 = .ok (.aconst_null, 1) := by decide +kernel
theorem dX5_convoyAt_22 : decode cX5_convoyAt 22 = .ok (.areturn, 1) := by decide +kernel
theorem dX5_lineOf_0 : decode cX5_lineOf 0 = .ok (.iload_n 1, 1) := by decide +kernel
theorem dX5_lineOf_1 : decode cX5_lineOf 1 = .ok (.ifCond .ne 10, 3) := by decide +kernel
theorem dX5_lineOf_4 : decode cX5_lineOf 4 = .ok (.aload_n 0, 1) := by decide +kernel
theorem dX5_lineOf_5 : decode cX5_lineOf 5 = .ok (.getfield 41, 3) := by decide +kernel
theorem dX5_lineOf_8 : decode cX5_lineOf 8 = .ok (.goto 7, 3) := by decide +kernel
theorem dX5_lineOf_11 : decode cX5_lineOf 11 = .ok (.aload_n 0, 1) := by decide +kernel
theorem dX5_lineOf_12 : decode cX5_lineOf 12 = .ok (.getfield 44, 3) := by decide +kernel
theorem dX5_lineOf_15 : decode cX5_lineOf 15 = .ok (.areturn, 1) := by decide +kernel
theorem dX5_isWay_0 : decode cX5_isWay 0 = .ok (.iload_n 0, 1) := by decide +kernel
theorem dX5_isWay_1 : decode cX5_isWay 1 = .ok (.ifCond .eq 8, 3) := by decide +kernel
theorem dX5_isWay_4 : decode cX5_isWay 4 = .ok (.iload_n 0, 1) := by decide +kernel
theorem dX5_isWay_5 : decode cX5_isWay 5 = .ok (.iconst 1, 1) := by decide +kernel
theorem dX5_isWay_6 : decode cX5_isWay 6 = .ok (.if_icmp .ne 7, 3) := by decide +kernel
theorem dX5_isWay_9 : decode cX5_isWay 9 = .ok (.iconst 1, 1) := by decide +kernel
theorem dX5_isWay_10 : decode cX5_isWay 10 = .ok (.goto 4, 3) := by decide +kernel
theorem dX5_isWay_13 : decode cX5_isWay 13 = .ok (.iconst 0, 1) := by decide +kernel
theorem dX5_isWay_14 : decode cX5_isWay 14 = .ok (.ireturn, 1) := by decide +kernel
theorem dX5_within_0 : decode cX5_within 0 = .ok (.iload_n 0, 1) := by decide +kernel
theorem dX5_within_1 : decode cX5_within 1 = .ok (.iload_n 1, 1) := by decide +kernel
theorem dX5_within_2 : decode cX5_within 2 = .ok (.if_icmp .lt 12, 3) := by decide +kernel
theorem dX5_within_5 : decode cX5_within 5 = .ok (.iload_n 0, 1) := by decide +kernel
theorem dX5_within_6 : decode cX5_within 6 = .ok (.iload_n 2, 1) := by decide +kernel
theorem dX5_within_7 : decode cX5_within 7 = .ok (.if_icmp .gt 7, 3) := by decide +kernel
theorem dX5_within_10 : decode cX5_within 10 = .ok (.iconst 1, 1) := by decide +kernel
theorem dX5_within_11 : decode cX5_within 11 = .ok (.goto 4, 3) := by decide +kernel
theorem dX5_within_14 : decode cX5_within 14 = .ok (.iconst 0, 1) := by decide +kernel
theorem dX5_within_15 : decode cX5_within 15 = .ok (.ireturn, 1) := by decide +kernel
