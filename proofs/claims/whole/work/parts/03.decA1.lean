theorem dX0_init_0 : decode cX0_init 0 = .ok (.aload_n 0, 1) := by decide +kernel
theorem dX0_init_1 : decode cX0_init 1 = .ok (.aload_n 1, 1) := by decide +kernel
theorem dX0_init_2 : decode cX0_init 2 = .ok (.aload_n 2, 1) := by decide +kernel
theorem dX0_init_3 : decode cX0_init 3 = .ok (.aload_n 3, 1) := by decide +kernel
theorem dX0_init_4 : decode cX0_init 4 = .ok (.invokespecial 3, 3) := by decide +kernel
theorem dX0_init_7 : decode cX0_init 7 = .ok (.return_, 1) := by decide +kernel
theorem dX0_kind_0 : decode cX0_kind 0 = .ok (.iconst 5, 1) := by decide +kernel
theorem dX0_kind_1 : decode cX0_kind 1 = .ok (.ireturn, 1) := by decide +kernel
theorem dX0_countWays_0 : decode cX0_countWays 0 = .ok (.aload_n 0, 1) := by decide +kernel
theorem dX0_countWays_1 : decode cX0_countWays 1 = .ok (.iload_n 1, 1) := by decide +kernel
theorem dX0_countWays_2 : decode cX0_countWays 2 = .ok (.invokevirtual 9, 3) := by decide +kernel
theorem dX0_countWays_5 : decode cX0_countWays 5 = .ok (.ifCond .eq 7, 3) := by decide +kernel
theorem dX0_countWays_8 : decode cX0_countWays 8 = .ok (.iconst 1, 1) := by decide +kernel
theorem dX0_countWays_9 : decode cX0_countWays 9 = .ok (.goto 4, 3) := by decide +kernel
theorem dX0_countWays_12 : decode cX0_countWays 12 = .ok (.iconst 0, 1) := by decide +kernel
theorem dX0_countWays_13 : decode cX0_countWays 13 = .ok (.ireturn, 1) := by decide +kernel
theorem dX0_turnedNotches_0 : decode cX0_turnedNotches 0 = .ok (.iconst 0, 1) := by decide +kernel
theorem dX0_turnedNotches_1 : decode cX0_turnedNotches 1 = .ok (.istore_n 1, 1) := by decide +kernel
theorem dX0_turnedNotches_2 : decode cX0_turnedNotches 2 = .ok (.iconst 0, 1) := by decide +kernel
theorem dX0_turnedNotches_3 : decode cX0_turnedNotches 3 = .ok (.istore_n 2, 1) := by decide +kernel
theorem dX0_turnedNotches_4 : decode cX0_turnedNotches 4 = .ok (.iload_n 2, 1) := by decide +kernel
theorem dX0_turnedNotches_5 : decode cX0_turnedNotches 5 = .ok (.aload_n 0, 1) := by decide +kernel
theorem dX0_turnedNotches_6 : decode cX0_turnedNotches 6 = .ok (.getfield 15, 3) := by decide +kernel
theorem dX0_turnedNotches_9 : decode cX0_turnedNotches 9 = .ok (.if_icmp .ge 56, 3) := by decide +kernel
theorem dX0_turnedNotches_12 : decode cX0_turnedNotches 12 = .ok (.iconst 0, 1) := by decide +kernel
theorem dX0_turnedNotches_13 : decode cX0_turnedNotches 13 = .ok (.istore_n 3, 1) := by decide +kernel
theorem dX0_turnedNotches_14 : decode cX0_turnedNotches 14 = .ok (.iload_n 3, 1) := by decide +kernel
theorem dX0_turnedNotches_15 : decode cX0_turnedNotches 15 = .ok (.aload_n 0, 1) := by decide +kernel
theorem dX0_turnedNotches_16 : decode cX0_turnedNotches 16 = .ok (.getfield 19, 3) := by decide +kernel
theorem dX0_turnedNotches_19 : decode cX0_turnedNotches 19 = .ok (.getfield 23, 3) := by decide +kernel
theorem dX0_turnedNotches_22 : decode cX0_turnedNotches 22 = .ok (.if_icmp .ge 37, 3) := by decide +kernel
theorem dX0_turnedNotches_25 : decode cX0_turnedNotches 25 = .ok (.iload_n 1, 1) := by decide +kernel
theorem dX0_turnedNotches_26 : decode cX0_turnedNotches 26 = .ok (.aload_n 0, 1) := by decide +kernel
theorem dX0_turnedNotches_27 : decode cX0_turnedNotches 27 = .ok (.aload_n 0, 1) := by decide +kernel
theorem dX0_turnedNotches_28 : decode cX0_turnedNotches 28 = .ok (.getfield 28, 3) := by decide +kernel
theorem dX0_turnedNotches_31 : decode cX0_turnedNotches 31 = .ok (.iload_n 2, 1) := by decide +kernel
theorem dX0_turnedNotches_32 : decode cX0_turnedNotches 32 = .ok (.iaload, 1) := by decide +kernel
theorem dX0_turnedNotches_33 : decode cX0_turnedNotches 33 = .ok (.invokevirtual 32, 3) := by decide +kernel
theorem dX0_turnedNotches_36 : decode cX0_turnedNotches 36 = .ok (.aload_n 0, 1) := by decide +kernel
theorem dX0_turnedNotches_37 : decode cX0_turnedNotches 37 = .ok (.getfield 19, 3) := by decide +kernel
theorem dX0_turnedNotches_40 : decode cX0_turnedNotches 40 = .ok (.aload_n 0, 1) := by decide +kernel
theorem dX0_turnedNotches_41 : decode cX0_turnedNotches 41 = .ok (.getfield 28, 3) := by decide +kernel
theorem dX0_turnedNotches_44 : decode cX0_turnedNotches 44 = .ok (.iload_n 2, 1) := by decide +kernel
theorem dX0_turnedNotches_45 : decode cX0_turnedNotches 45 = .ok (.iaload, 1) := by decide +kernel
theorem dX0_turnedNotches_46 : decode cX0_turnedNotches 46 = .ok (.iload_n 3, 1) := by decide +kernel
theorem dX0_turnedNotches_47 : decode cX0_turnedNotches 47 = .ok (.invokevirtual 36, 3) := by decide +kernel
theorem dX0_turnedNotches_50 : decode cX0_turnedNotches 50 = .ok (.imul, 1) := by decide +kernel
theorem dX0_turnedNotches_51 : decode cX0_turnedNotches 51 = .ok (.iadd, 1) := by decide +kernel
theorem dX0_turnedNotches_52 : decode cX0_turnedNotches 52 = .ok (.istore_n 1, 1) := by decide +kernel
theorem dX0_turnedNotches_53 : decode cX0_turnedNotches 53 = .ok (.iinc 3 1, 3) := by decide +kernel
theorem dX0_turnedNotches_56 : decode cX0_turnedNotches 56 = .ok (.goto (-42), 3) := by decide +kernel
theorem dX0_turnedNotches_59 : decode cX0_turnedNotches 59 = .ok (.iinc 2 1, 3) := by decide +kernel
theorem dX0_turnedNotches_62 : decode cX0_turnedNotches 62 = .ok (.goto (-58), 3) := by decide +kernel
theorem dX0_turnedNotches_65 : decode cX0_turnedNotches 65 = .ok (.iload_n 1, 1) := by decide +kernel
theorem dX0_turnedNotches_66 : decode cX0_turnedNotches 66 = .ok (.ireturn, 1) := by decide +kernel
theorem dX1_init_0 : decode cX1_init 0 = .ok (.aload_n 0, 1) := by decide +kernel
theorem dX1_init_1 : decode cX1_init 1 = .ok (.aload_n 1, 1) := by decide +kernel
theorem dX1_init_2 : decode cX1_init 2 = .ok (.aload_n 2, 1) := by decide +kernel
theorem dX1_init_3 : decode cX1_init 3 = .ok (.aload_n 3, 1) := by decide +kernel
theorem dX1_init_4 : decode cX1_init 4 = .ok (.invokespecial 3, 3) := by decide +kernel
theorem dX1_init_7 : decode cX1_init 7 = .ok (.return_, 1) := by decide +kernel
theorem dX1_kind_0 : decode cX1_kind 0 = .ok (.iconst 2, 1) := by decide +kernel
theorem dX1_kind_1 : decode cX1_kind 1 = .ok (.ireturn, 1) := by decide +kernel
theorem dX1_countWays_0 : decode cX1_countWays 0 = .ok (.aload_n 0, 1) := by decide +kernel
theorem dX1_countWays_1 : decode cX1_countWays 1 = .ok (.getfield 9, 3) := by decide +kernel
theorem dX1_countWays_4 : decode cX1_countWays 4 = .ok (.iload_n 1, 1) := by decide +kernel
theorem dX1_countWays_5 : decode cX1_countWays 5 = .ok (.invokevirtual 15, 3) := by decide +kernel
theorem dX1_countWays_8 : decode cX1_countWays 8 = .ok (.iconst 1, 1) := by decide +kernel
theorem dX1_countWays_9 : decode cX1_countWays 9 = .ok (.if_icmp .ne 15, 3) := by decide +kernel
theorem dX1_countWays_12 : decode cX1_countWays 12 = .ok (.aload_n 0, 1) := by decide +kernel
theorem dX1_countWays_13 : decode cX1_countWays 13 = .ok (.iload_n 1, 1) := by decide +kernel
theorem dX1_countWays_14 : decode cX1_countWays 14 = .ok (.invokevirtual 21, 3) := by decide +kernel
theorem dX1_countWays_17 : decode cX1_countWays 17 = .ok (.ifCond .eq 7, 3) := by decide +kernel
theorem dX1_countWays_20 : decode cX1_countWays 20 = .ok (.iconst 1, 1) := by decide +kernel
theorem dX1_countWays_21 : decode cX1_countWays 21 = .ok (.goto 4, 3) := by decide +kernel
theorem dX1_countWays_24 : decode cX1_countWays 24 = .ok (.iconst 0, 1) := by decide +kernel
theorem dX1_countWays_25 : decode cX1_countWays 25 = .ok (.ireturn, 1) := by decide +kernel
theorem dX1_noneAboveFlicks_0 : decode cX1_noneAboveFlicks 0 = .ok (.iconst 0, 1) := by decide +kernel
theorem dX1_noneAboveFlicks_1 : decode cX1_noneAboveFlicks 1 = .ok (.istore_n 2, 1) := by decide +kernel
theorem dX1_noneAboveFlicks_2 : decode cX1_noneAboveFlicks 2 = .ok (.iload_n 2, 1) := by decide +kernel
theorem dX1_noneAboveFlicks_3 : decode cX1_noneAboveFlicks 3 = .ok (.aload_n 0, 1) := by decide +kernel
theorem dX1_noneAboveFlicks_4 : decode cX1_noneAboveFlicks 4 = .ok (.getfield 9, 3) := by decide +kernel
theorem dX1_noneAboveFlicks_7 : decode cX1_noneAboveFlicks 7 = .ok (.getfield 25, 3) := by decide +kernel
theorem dX1_noneAboveFlicks_10 : decode cX1_noneAboveFlicks 10 = .ok (.if_icmp .ge 27, 3) := by decide +kernel
theorem dX1_noneAboveFlicks_13 : decode cX1_noneAboveFlicks 13 = .ok (.aload_n 0, 1) := by decide +kernel
theorem dX1_noneAboveFlicks_14 : decode cX1_noneAboveFlicks 14 = .ok (.getfield 9, 3) := by decide +kernel
theorem dX1_noneAboveFlicks_17 : decode cX1_noneAboveFlicks 17 = .ok (.iload_n 1, 1) := by decide +kernel
theorem dX1_noneAboveFlicks_18 : decode cX1_noneAboveFlicks 18 = .ok (.iload_n 2, 1) := by decide +kernel
theorem dX1_noneAboveFlicks_19 : decode cX1_noneAboveFlicks 19 = .ok (.invokevirtual 29, 3) := by decide +kernel
theorem dX1_noneAboveFlicks_22 : decode cX1_noneAboveFlicks 22 = .ok (.aload_n 0, 1) := by decide +kernel
theorem dX1_noneAboveFlicks_23 : decode cX1_noneAboveFlicks 23 = .ok (.getfield 33, 3) := by decide +kernel
theorem dX1_noneAboveFlicks_26 : decode cX1_noneAboveFlicks 26 = .ok (.if_icmp .le 5, 3) := by decide +kernel
theorem dX1_noneAboveFlicks_29 : decode cX1_noneAboveFlicks 29 = .ok (.iconst 0, 1) := by decide +kernel
theorem dX1_noneAboveFlicks_30 : decode cX1_noneAboveFlicks 30 = .ok (.ireturn, 1) := by decide +kernel
theorem dX1_noneAboveFlicks_31 : decode cX1_noneAboveFlicks 31 = .ok (.iinc 2 1, 3) := by decide +kernel
theorem dX1_noneAboveFlicks_34 : decode cX1_noneAboveFlicks 34 = .ok (.goto (-32), 3) := by decide +kernel
theorem dX1_noneAboveFlicks_37 : decode cX1_noneAboveFlicks 37 = .ok (.iconst 1, 1) := by decide +kernel
theorem dX1_noneAboveFlicks_38 : decode cX1_noneAboveFlicks 38 = .ok (.ireturn, 1) := by decide +kernel
theorem dX1_waysLeavingFirst_0 : decode cX1_waysLeavingFirst 0 = .ok (.iconst 0, 1) := by decide +kernel
theorem dX1_waysLeavingFirst_1 : decode cX1_waysLeavingFirst 1 = .ok (.istore_n 1, 1) := by decide +kernel
theorem dX1_waysLeavingFirst_2 : decode cX1_waysLeavingFirst 2 = .ok (.iconst 0, 1) := by decide +kernel
theorem dX1_waysLeavingFirst_3 : decode cX1_waysLeavingFirst 3 = .ok (.istore_n 2, 1) := by decide +kernel
theorem dX1_waysLeavingFirst_4 : decode cX1_waysLeavingFirst 4 = .ok (.iload_n 2, 1) := by decide +kernel
theorem dX1_waysLeavingFirst_5 : decode cX1_waysLeavingFirst 5 = .ok (.aload_n 0, 1) := by decide +kernel
theorem dX1_waysLeavingFirst_6 : decode cX1_waysLeavingFirst 6 = .ok (.getfield 36, 3) := by decide +kernel
theorem dX1_waysLeavingFirst_9 : decode cX1_waysLeavingFirst 9 = .ok (.if_icmp .ge 43, 3) := by decide +kernel
theorem dX1_waysLeavingFirst_12 : decode cX1_waysLeavingFirst 12 = .ok (.iload_n 1, 1) := by decide +kernel
theorem dX1_waysLeavingFirst_13 : decode cX1_waysLeavingFirst 13 = .ok (.aload_n 0, 1) := by decide +kernel
theorem dX1_waysLeavingFirst_14 : decode cX1_waysLeavingFirst 14 = .ok (.getfield 9, 3) := by decide +kernel
theorem dX1_waysLeavingFirst_17 : decode cX1_waysLeavingFirst 17 = .ok (.aload_n 0, 1) := by decide +kernel
theorem dX1_waysLeavingFirst_18 : decode cX1_waysLeavingFirst 18 = .ok (.getfield 39, 3) := by decide +kernel
theorem dX1_waysLeavingFirst_21 : decode cX1_waysLeavingFirst 21 = .ok (.iload_n 2, 1) := by decide +kernel
theorem dX1_waysLeavingFirst_22 : decode cX1_waysLeavingFirst 22 = .ok (.iaload, 1) := by decide +kernel
theorem dX1_waysLeavingFirst_23 : decode cX1_waysLeavingFirst 23 = .ok (.iconst 0, 1) := by decide +kernel
theorem dX1_waysLeavingFirst_24 : decode cX1_waysLeavingFirst 24 = .ok (.invokevirtual 29, 3) := by decide +kernel
theorem dX1_waysLeavingFirst_27 : decode cX1_waysLeavingFirst 27 = .ok (.ifCond .ne 16, 3) := by decide +kernel
theorem dX1_waysLeavingFirst_30 : decode cX1_waysLeavingFirst 30 = .ok (.aload_n 0, 1) := by decide +kernel
theorem dX1_waysLeavingFirst_31 : decode cX1_waysLeavingFirst 31 = .ok (.aload_n 0, 1) := by decide +kernel
theorem dX1_waysLeavingFirst_32 : decode cX1_waysLeavingFirst 32 = .ok (.getfield 39, 3) := by decide +kernel
theorem dX1_waysLeavingFirst_35 : decode cX1_waysLeavingFirst 35 = .ok (.iload_n 2, 1) := by decide +kernel
theorem dX1_waysLeavingFirst_36 : decode cX1_waysLeavingFirst 36 = .ok (.iaload, 1) := by decide +kernel
theorem dX1_waysLeavingFirst_37 : decode cX1_waysLeavingFirst 37 = .ok (.invokevirtual 43, 3) := by decide +kernel
theorem dX1_waysLeavingFirst_40 : decode cX1_waysLeavingFirst 40 = .ok (.goto 4, 3) := by decide +kernel
theorem dX1_waysLeavingFirst_43 : decode cX1_waysLeavingFirst 43 = .ok (.iconst 0, 1) := by decide +kernel
theorem dX1_waysLeavingFirst_44 : decode cX1_waysLeavingFirst 44 = .ok (.iadd, 1) := by decide +kernel
theorem dX1_waysLeavingFirst_45 : decode cX1_waysLeavingFirst 45 = .ok (.istore_n 1, 1) := by decide +kernel
theorem dX1_waysLeavingFirst_46 : decode cX1_waysLeavingFirst 46 = .ok (.iinc 2 1, 3) := by decide +kernel
theorem dX1_waysLeavingFirst_49 : decode cX1_waysLeavingFirst 49 = .ok (.goto (-45), 3) := by decide +kernel
theorem dX1_waysLeavingFirst_52 : decode cX1_waysLeavingFirst 52 = .ok (.iload_n 1, 1) := by decide +kernel
theorem dX1_waysLeavingFirst_53 : decode cX1_waysLeavingFirst 53 = .ok (.ireturn, 1) := by decide +kernel
theorem dX2_init_0 : decode cX2_init 0 = .ok (.aload_n 0, 1) := by decide +kernel
theorem dX2_init_1 : decode cX2_init 1 = .ok (.aload_n 1, 1) := by decide +kernel
theorem dX2_init_2 : decode cX2_init 2 = .ok (.aload_n 2, 1) := by decide +kernel
theorem dX2_init_3 : decode cX2_init 3 = .ok (.aload_n 3, 1) := by decide +kernel
theorem dX2_init_4 : decode cX2_init 4 = .ok (.invokespecial 3, 3) := by decide +kernel
theorem dX2_init_7 : decode cX2_init 7 = .ok (.return_, 1) := by decide +kernel
theorem dX2_kind_0 : decode cX2_kind 0 = .ok (.iconst 3, 1) := by decide +kernel
theorem dX2_kind_1 : decode cX2_kind 1 = .ok (.ireturn, 1) := by decide +kernel
theorem dX2_countWays_0 : decode cX2_countWays 0 = .ok (.iconst 1, 1) := by decide +kernel
theorem dX2_countWays_1 : decode cX2_countWays 1 = .ok (.ireturn, 1) := by decide +kernel
theorem dX3_init_0 : decode cX3_init 0 = .ok (.aload_n 0, 1) := by decide +kernel
theorem dX3_init_1 : decode cX3_init 1 = .ok (.aload_n 1, 1) := by decide +kernel
theorem dX3_init_2 : decode cX3_init 2 = .ok (.aload_n 2, 1) := by decide +kernel
theorem dX3_init_3 : decode cX3_init 3 = .ok (.aload_n 3, 1) := by decide +kernel
theorem dX3_init_4 : decode cX3_init 4 = .ok (.invokespecial 3, 3) := by decide +kernel
theorem dX3_init_7 : decode cX3_init 7 = .ok (.return_, 1) := by decide +kernel
theorem dX3_kind_0 : decode cX3_kind 0 = .ok (.iconst 4, 1) := by decide +kernel
theorem dX3_kind_1 : decode cX3_kind 1 = .ok (.ireturn, 1) := by decide +kernel
theorem dX3_firstTurned_0 : decode cX3_firstTurned 0 = .ok (.iconst 0, 1) := by decide +kernel
theorem dX3_firstTurned_1 : decode cX3_firstTurned 1 = .ok (.aload_n 0, 1) := by decide +kernel
theorem dX3_firstTurned_2 : decode cX3_firstTurned 2 = .ok (.getfield 9, 3) := by decide +kernel
theorem dX3_firstTurned_5 : decode cX3_firstTurned 5 = .ok (.getfield 15, 3) := by decide +kernel
theorem dX3_firstTurned_8 : decode cX3_firstTurned 8 = .ok (.iconst 2, 1) := by decide +kernel
theorem dX3_firstTurned_9 : decode cX3_firstTurned 9 = .ok (.isub, 1) := by decide +kernel
theorem dX3_firstTurned_10 : decode cX3_firstTurned 10 = .ok (.invokestatic 21, 3) := by decide +kernel
theorem dX3_firstTurned_13 : decode cX3_firstTurned 13 = .ok (.ireturn, 1) := by decide +kernel
theorem dX3_turnedWheels_0 : decode cX3_turnedWheels 0 = .ok (.aload_n 0, 1) := by decide +kernel
theorem dX3_turnedWheels_1 : decode cX3_turnedWheels 1 = .ok (.getfield 9, 3) := by decide +kernel
theorem dX3_turnedWheels_4 : decode cX3_turnedWheels 4 = .ok (.getfield 15, 3) := by decide +kernel
theorem dX3_turnedWheels_7 : decode cX3_turnedWheels 7 = .ok (.aload_n 0, 1) := by decide +kernel
theorem dX3_turnedWheels_8 : decode cX3_turnedWheels 8 = .ok (.invokevirtual 27, 3) := by decide +kernel
theorem dX3_turnedWheels_11 : decode cX3_turnedWheels 11 = .ok (.isub, 1) := by decide +kernel
theorem dX3_turnedWheels_12 : decode cX3_turnedWheels 12 = .ok (.ireturn, 1) := by decide +kernel
theorem dX4_init_0 : decode cX4_init 0 = .ok (.aload_n 0, 1) := by decide +kernel
theorem dX4_init_1 : decode cX4_init 1 = .ok (.aload_n 1, 1) := by decide +kernel
theorem dX4_init_2 : decode cX4_init 2 = .ok (.aload_n 2, 1) := by decide +kernel
theorem dX4_init_3 : decode cX4_init 3 = .ok (.aload_n 3, 1) := by decide +kernel
theorem dX4_init_4 : decode cX4_init 4 = .ok (.invokespecial 3, 3) := by decide +kernel
theorem dX4_init_7 : decode cX4_init 7 = .ok (.return_, 1) := by decide +kernel
theorem dX4_kind_0 : decode cX4_kind 0 = .ok (.iconst 1, 1) := by decide +kernel
theorem dX4_kind_1 : decode cX4_kind 1 = .ok (.ireturn, 1) := by decide +kernel
theorem dX4_firstTurned_0 : decode cX4_firstTurned 0 = .ok (.aload_n 0, 1) := by decide +kernel
theorem dX4_firstTurned_1 : decode cX4_firstTurned 1 = .ok (.getfield 9, 3) := by decide +kernel
theorem dX4_firstTurned_4 : decode cX4_firstTurned 4 = .ok (.getfield 15, 3) := by decide +kernel
theorem dX4_firstTurned_7 : decode cX4_firstTurned 7 = .ok (.iconst 1, 1) := by decide +kernel
theorem dX4_firstTurned_8 : decode cX4_firstTurned 8 = .ok (.isub, 1) := by decide +kernel
theorem dX4_firstTurned_9 : decode cX4_firstTurned 9 = .ok (.ireturn, 1) := by decide +kernel
theorem dX4_countWays_0 : decode cX4_countWays 0 = .ok (.aload_n 0, 1) := by decide +kernel
theorem dX4_countWays_1 : decode cX4_countWays 1 = .ok (.invokevirtual 21, 3) := by decide +kernel
theorem dX4_countWays_4 : decode cX4_countWays 4 = .ok (.istore_n 2, 1) := by decide +kernel
theorem dX4_countWays_5 : decode cX4_countWays 5 = .ok (.aload_n 0, 1) := by decide +kernel
theorem dX4_countWays_6 : decode cX4_countWays 6 = .ok (.getfield 9, 3) := by decide +kernel
theorem dX4_countWays_9 : decode cX4_countWays 9 = .ok (.iload_n 1, 1) := by decide +kernel
theorem dX4_countWays_10 : decode cX4_countWays 10 = .ok (.iload_n 2, 1) := by decide +kernel
theorem dX4_countWays_11 : decode cX4_countWays 11 = .ok (.invokevirtual 25, 3) := by decide +kernel
theorem dX4_countWays_14 : decode cX4_countWays 14 = .ok (.ifCond .ne 5, 3) := by decide +kernel
theorem dX4_countWays_17 : decode cX4_countWays 17 = .ok (.iconst 0, 1) := by decide +kernel
theorem dX4_countWays_18 : decode cX4_countWays 18 = .ok (.ireturn, 1) := by decide +kernel
theorem dX4_countWays_19 : decode cX4_countWays 19 = .ok (.iconst 1, 1) := by decide +kernel
theorem dX4_countWays_20 : decode cX4_countWays 20 = .ok (.istore_n 3, 1) := by decide +kernel
theorem dX4_countWays_21 : decode cX4_countWays 21 = .ok (.iload_n 2, 1) := by decide +kernel
theorem dX4_countWays_22 : decode cX4_countWays 22 = .ok (.istore 4, 2) := by decide +kernel
theorem dX4_countWays_24 : decode cX4_countWays 24 = .ok (.iload 4, 2) := by decide +kernel
theorem dX4_countWays_26 : decode cX4_countWays 26 = .ok (.aload_n 0, 1) := by decide +kernel
theorem dX4_countWays_27 : decode cX4_countWays 27 = .ok (.getfield 9, 3) := by decide +kernel
theorem dX4_countWays_30 : decode cX4_countWays 30 = .ok (.getfield 15, 3) := by decide +kernel
theorem dX4_countWays_33 : decode cX4_countWays 33 = .ok (.if_icmp .ge 77, 3) := by decide +kernel
theorem dX4_countWays_36 : decode cX4_countWays 36 = .ok (.aload_n 0, 1) := by decide +kernel
theorem dX4_countWays_37 : decode cX4_countWays 37 = .ok (.getfield 9, 3) := by decide +kernel
theorem dX4_countWays_40 : decode cX4_countWays 40 = .ok (.iload_n 1, 1) := by decide +kernel
theorem dX4_countWays_41 : decode cX4_countWays 41 = .ok (.iload 4, 2) := by decide +kernel
theorem dX4_countWays_43 : decode cX4_countWays 43 = .ok (.invokevirtual 29, 3) := by decide +kernel
theorem dX4_countWays_46 : decode cX4_countWays 46 = .ok (.istore 5, 2) := by decide +kernel
theorem dX4_countWays_48 : decode cX4_countWays 48 = .ok (.aload_n 0, 1) := by decide +kernel
theorem dX4_countWays_49 : decode cX4_countWays 49 = .ok (.getfield 9, 3) := by decide +kernel
theorem dX4_countWays_52 : decode cX4_countWays 52 = .ok (.getfield 33, 3) := by decide +kernel
theorem dX4_countWays_55 : decode cX4_countWays 55 = .ok (.iload 5, 2) := by decide +kernel
theorem dX4_countWays_57 : decode cX4_countWays 57 = .ok (.isub, 1) := by decide +kernel
theorem dX4_countWays_58 : decode cX4_countWays 58 = .ok (.istore 6, 2) := by decide +kernel
theorem dX4_countWays_60 : decode cX4_countWays 60 = .ok (.iload_n 3, 1) := by decide +kernel
theorem dX4_countWays_61 : decode cX4_countWays 61 = .ok (.iload 5, 2) := by decide +kernel
theorem dX4_countWays_63 : decode cX4_countWays 63 = .ok (.iconst 1, 1) := by decide +kernel
theorem dX4_countWays_64 : decode cX4_countWays 64 = .ok (.if_icmp .lt 16, 3) := by decide +kernel
theorem dX4_countWays_67 : decode cX4_countWays 67 = .ok (.iload 5, 2) := by decide +kernel
theorem dX4_countWays_69 : decode cX4_countWays 69 = .ok (.aload_n 0, 1) := by decide +kernel
theorem dX4_countWays_70 : decode cX4_countWays 70 = .ok (.getfield 36, 3) := by decide +kernel
theorem dX4_countWays_73 : decode cX4_countWays 73 = .ok (.if_icmp .gt 7, 3) := by decide +kernel
theorem dX4_countWays_76 : decode cX4_countWays 76 = .ok (.iconst 1, 1) := by decide +kernel
theorem dX4_countWays_77 : decode cX4_countWays 77 = .ok (.goto 4, 3) := by decide +kernel
theorem dX4_countWays_80 : decode cX4_countWays 80 = .ok (.iconst 0, 1) := by decide +kernel
theorem dX4_countWays_81 : decode cX4_countWays 81 = .ok (.iload 6, 2) := by decide +kernel
theorem dX4_countWays_83 : decode cX4_countWays 83 = .ok (.iconst 1, 1) := by decide +kernel
theorem dX4_countWays_84 : decode cX4_countWays 84 = .ok (.if_icmp .lt 16, 3) := by decide +kernel
theorem dX4_countWays_87 : decode cX4_countWays 87 = .ok (.iload 6, 2) := by decide +kernel
theorem dX4_countWays_89 : decode cX4_countWays 89 = .ok (.aload_n 0, 1) := by decide +kernel
theorem dX4_countWays_90 : decode cX4_countWays 90 = .ok (.getfield 36, 3) := by decide +kernel
theorem dX4_countWays_93 : decode cX4_countWays 93 = .ok (.if_icmp .gt 7, 3) := by decide +kernel
theorem dX4_countWays_96 : decode cX4_countWays 96 = .ok (.iconst 1, 1) := by decide +kernel
theorem dX4_countWays_97 : decode cX4_countWays 97 = .ok (.goto 4, 3) := by decide +kernel
theorem dX4_countWays_100 : decode cX4_countWays 100 = .ok (.iconst 0, 1) := by decide +kernel
theorem dX4_countWays_101 : decode cX4_countWays 101 = .ok (.iadd, 1) := by decide +kernel
theorem dX4_countWays_102 : decode cX4_countWays 102 = .ok (.imul, 1) := by decide +kernel
theorem dX4_countWays_103 : decode cX4_countWays 103 = .ok (.istore_n 3, 1) := by decide +kernel
theorem dX4_countWays_104 : decode cX4_countWays 104 = .ok (.iinc 4 1, 3) := by decide +kernel
theorem dX4_countWays_107 : decode cX4_countWays 107 = .ok (.goto (-83), 3) := by decide +kernel
theorem dX4_countWays_110 : decode cX4_countWays 110 = .ok (.iload_n 3, 1) := by decide +kernel
theorem dX4_countWays_111 : decode cX4_countWays 111 = .ok (.ireturn, 1) := by decide +kernel
theorem dX4_unlikeSights_0 : decode cX4_unlikeSights 0 = .ok (.aload_n 0, 1) := by decide +kernel
theorem dX4_unlikeSights_1 : decode cX4_unlikeSights 1 = .ok (.getfield 39, 3) := by decide +kernel
theorem dX4_unlikeSights_4 : decode cX4_unlikeSights 4 = .ok (.ireturn, 1) := by decide +kernel
theorem dX5_init_0 : decode cX5_init 0 = .ok (.aload_n 0, 1) := by decide +kernel
theorem dX5_init_1 : decode cX5_init 1 = .ok (.invokespecial 3, 3) := by decide +kernel
theorem dX5_init_4 : decode cX5_init 4 = .ok (.aload_n 0, 1) := by decide +kernel
theorem dX5_init_5 : decode cX5_init 5 = .ok (.iconst 0, 1) := by decide +kernel
theorem dX5_init_6 : decode cX5_init 6 = .ok (.putfield 9, 3) := by decide +kernel
theorem dX5_init_9 : decode cX5_init 9 = .ok (.aload_n 0, 1) := by decide +kernel
theorem dX5_init_10 : decode cX5_init 10 = .ok (.iconst 0, 1) := by decide +kernel
theorem dX5_init_11 : decode cX5_init 11 = .ok (.putfield 15, 3) := by decide +kernel
theorem dX5_init_14 : decode cX5_init 14 = .ok (.aload_n 0, 1) := by decide +kernel
theorem dX5_init_15 : decode cX5_init 15 = .ok (.iconst 1, 1) := by decide +kernel
theorem dX5_init_16 : decode cX5_init 16 = .ok (.putfield 18, 3) := by decide +kernel
theorem dX5_init_19 : decode cX5_init 19 = .ok (.aload_n 0, 1) := by decide +kernel
theorem dX5_init_20 : decode cX5_init 20 = .ok (.aload_n 1, 1) := by decide +kernel
theorem dX5_init_21 : decode cX5_init 21 = .ok (.putfield 21, 3) := by decide +kernel
theorem dX5_init_24 : decode cX5_init 24 = .ok (.aload_n 0, 1) := by decide +kernel
theorem dX5_init_25 : decode cX5_init 25 = .ok (.aload_n 2, 1) := by decide +kernel
theorem dX5_init_26 : decode cX5_init 26 = .ok (.putfield 25, 3) := by decide +kernel
theorem dX5_init_29 : decode cX5_init 29 = .ok (.aload_n 0, 1) := by decide +kernel
theorem dX5_init_30 : decode cX5_init 30 = .ok (.aload_n 3, 1) := by decide +kernel
theorem dX5_init_31 : decode cX5_init 31 = .ok (.putfield 29, 3) := by decide +kernel
theorem dX5_init_34 : decode cX5_init 34 = .ok (.return_, 1) := by decide +kernel
theorem dX5_kind_0 : decode cX5_kind 0 = .ok (.iconst 0, 1) := by decide +kernel
theorem dX5_kind_1 : decode cX5_kind 1 = .ok (.ireturn, 1) := by decide +kernel
theorem dX5_countWays_0 : decode cX5_countWays 0 = .ok (.aload_n 0, 1) := by decide +kernel
theorem dX5_countWays_1 : decode cX5_countWays 1 = .ok (.getfield 21, 3) := by decide +kernel
theorem dX5_countWays_4 : decode cX5_countWays 4 = .ok (.getfield 32, 3) := by decide +kernel
theorem dX5_countWays_7 : decode cX5_countWays 7 = .ok (.iconst 1, 1) := by decide +kernel
theorem dX5_countWays_8 : decode cX5_countWays 8 = .ok (.isub, 1) := by decide +kernel
theorem dX5_countWays_9 : decode cX5_countWays 9 = .ok (.istore_n 2, 1) := by decide +kernel
theorem dX5_countWays_10 : decode cX5_countWays 10 = .ok (.aload_n 0, 1) := by decide +kernel
theorem dX5_countWays_11 : decode cX5_countWays 11 = .ok (.getfield 21, 3) := by decide +kernel
theorem dX5_countWays_14 : decode cX5_countWays 14 = .ok (.iload_n 1, 1) := by decide +kernel
theorem dX5_countWays_15 : decode cX5_countWays 15 = .ok (.iload_n 2, 1) := by decide +kernel
theorem dX5_countWays_16 : decode cX5_countWays 16 = .ok (.invokevirtual 37, 3) := by decide +kernel
theorem dX5_countWays_19 : decode cX5_countWays 19 = .ok (.istore_n 3, 1) := by decide +kernel
theorem dX5_countWays_20 : decode cX5_countWays 20 = .ok (.aload_n 0, 1) := by decide +kernel
theorem dX5_countWays_21 : decode cX5_countWays 21 = .ok (.getfield 21, 3) := by decide +kernel
theorem dX5_countWays_24 : decode cX5_countWays 24 = .ok (.iload_n 1, 1) := by decide +kernel
theorem dX5_countWays_25 : decode cX5_countWays 25 = .ok (.iload_n 2, 1) := by decide +kernel
theorem dX5_countWays_26 : decode cX5_countWays 26 = .ok (.invokevirtual 41, 3) := by decide +kernel
theorem dX5_countWays_29 : decode cX5_countWays 29 = .ok (.ifCond .eq 20, 3) := by decide +kernel
theorem dX5_countWays_32 : decode cX5_countWays 32 = .ok (.iload_n 3, 1) := by decide +kernel
theorem dX5_countWays_33 : decode cX5_countWays 33 = .ok (.iconst 1, 1) := by decide +kernel
theorem dX5_countWays_34 : decode cX5_countWays 34 = .ok (.if_icmp .lt 15, 3) := by decide +kernel
theorem dX5_countWays_37 : decode cX5_countWays 37 = .ok (.iload_n 3, 1) := by decide +kernel
theorem dX5_countWays_38 : decode cX5_countWays 38 = .ok (.aload_n 0, 1) := by decide +kernel
theorem dX5_countWays_39 : decode cX5_countWays 39 = .ok (.getfield 18, 3) := by decide +kernel
theorem dX5_countWays_42 : decode cX5_countWays 42 = .ok (.if_icmp .gt 7, 3) := by decide +kernel
theorem dX5_countWays_45 : decode cX5_countWays 45 = .ok (.iconst 1, 1) := by decide +kernel
theorem dX5_countWays_46 : decode cX5_countWays 46 = .ok (.goto 4, 3) := by decide +kernel
theorem dX5_countWays_49 : decode cX5_countWays 49 = .ok (.iconst 0, 1) := by decide +kernel
theorem dX5_countWays_50 : decode cX5_countWays 50 = .ok (.ireturn, 1) := by decide +kernel
theorem dX5_learn_0 : decode cX5_learn 0 = .ok (.aload_n 0, 1) := by decide +kernel
theorem dX5_learn_1 : decode cX5_learn 1 = .ok (.iload_n 1, 1) := by decide +kernel
theorem dX5_learn_2 : decode cX5_learn 2 = .ok (.putfield 18, 3) := by decide +kernel
theorem dX5_learn_5 : decode cX5_learn 5 = .ok (.aload_n 0, 1) := by decide +kernel
theorem dX5_learn_6 : decode cX5_learn 6 = .ok (.iconst 0, 1) := by decide +kernel
theorem dX5_learn_7 : decode cX5_learn 7 = .ok (.putfield 9, 3) := by decide +kernel
theorem dX5_learn_10 : decode cX5_learn 10 = .ok (.aload_n 0, 1) := by decide +kernel
theorem dX5_learn_11 : decode cX5_learn 11 = .ok (.iconst 0, 1) := by decide +kernel
theorem dX5_learn_12 : decode cX5_learn 12 = .ok (.putfield 15, 3) := by decide +kernel
theorem dX5_learn_15 : decode cX5_learn 15 = .ok (.iconst 0, 1) := by decide +kernel
theorem dX5_learn_16 : decode cX5_learn 16 = .ok (.istore_n 2, 1) := by decide +kernel
theorem dX5_learn_17 : decode cX5_learn 17 = .ok (.iload_n 2, 1) := by decide +kernel
theorem dX5_learn_18 : decode cX5_learn 18 = .ok (.aload_n 0, 1) := by decide +kernel
theorem dX5_learn_19 : decode cX5_learn 19 = .ok (.getfield 21, 3) := by decide +kernel
theorem dX5_learn_22 : decode cX5_learn 22 = .ok (.getfield 45, 3) := by decide +kernel
theorem dX5_learn_25 : decode cX5_learn 25 = .ok (.if_icmp .ge 85, 3) := by decide +kernel
theorem dX5_learn_28 : decode cX5_learn 28 = .ok (.iload_n 2, 1) := by decide +kernel
theorem dX5_learn_29 : decode cX5_learn 29 = .ok (.aload_n 0, 1) := by decide +kernel
theorem dX5_learn_30 : decode cX5_learn 30 = .ok (.getfield 29, 3) := by decide +kernel
theorem dX5_learn_33 : decode cX5_learn 33 = .ok (.arraylength, 1) := by decide +kernel
theorem dX5_learn_34 : decode cX5_learn 34 = .ok (.if_icmp .ge 76, 3) := by decide +kernel
theorem dX5_learn_37 : decode cX5_learn 37 = .ok (.aload_n 0, 1) := by decide +kernel
theorem dX5_learn_38 : decode cX5_learn 38 = .ok (.getfield 29, 3) := by decide +kernel
theorem dX5_learn_41 : decode cX5_learn 41 = .ok (.iload_n 2, 1) := by decide +kernel
theorem dX5_learn_42 : decode cX5_learn 42 = .ok (.aload_n 0, 1) := by decide +kernel
theorem dX5_learn_43 : decode cX5_learn 43 = .ok (.iload_n 2, 1) := by decide +kernel
theorem dX5_learn_44 : decode cX5_learn 44 = .ok (.invokevirtual 48, 3) := by decide +kernel
theorem dX5_learn_47 : decode cX5_learn 47 = .ok (.iastore, 1) := by decide +kernel
theorem dX5_learn_48 : decode cX5_learn 48 = .ok (.aload_n 0, 1) := by decide +kernel
theorem dX5_learn_49 : decode cX5_learn 49 = .ok (.dup, 1) := by decide +kernel
theorem dX5_learn_50 : decode cX5_learn 50 = .ok (.getfield 15, 3) := by decide +kernel
theorem dX5_learn_53 : decode cX5_learn 53 = .ok (.aload_n 0, 1) := by decide +kernel
theorem dX5_learn_54 : decode cX5_learn 54 = .ok (.getfield 29, 3) := by decide +kernel
theorem dX5_learn_57 : decode cX5_learn 57 = .ok (.iload_n 2, 1) := by decide +kernel
theorem dX5_learn_58 : decode cX5_learn 58 = .ok (.iaload, 1) := by decide +kernel
theorem dX5_learn_59 : decode cX5_learn 59 = .ok (.iadd, 1) := by decide +kernel
theorem dX5_learn_60 : decode cX5_learn 60 = .ok (.putfield 15, 3) := by decide +kernel
theorem dX5_learn_63 : decode cX5_learn 63 = .ok (.aload_n 0, 1) := by decide +kernel
theorem dX5_learn_64 : decode cX5_learn 64 = .ok (.getfield 29, 3) := by decide +kernel
theorem dX5_learn_67 : decode cX5_learn 67 = .ok (.iload_n 2, 1) := by decide +kernel
theorem dX5_learn_68 : decode cX5_learn 68 = .ok (.iaload, 1) := by decide +kernel
theorem dX5_learn_69 : decode cX5_learn 69 = .ok (.ifCond .le 35, 3) := by decide +kernel
theorem dX5_learn_72 : decode cX5_learn 72 = .ok (.aload_n 0, 1) := by decide +kernel
theorem dX5_learn_73 : decode cX5_learn 73 = .ok (.getfield 9, 3) := by decide +kernel
theorem dX5_learn_76 : decode cX5_learn 76 = .ok (.aload_n 0, 1) := by decide +kernel
theorem dX5_learn_77 : decode cX5_learn 77 = .ok (.getfield 25, 3) := by decide +kernel
theorem dX5_learn_80 : decode cX5_learn 80 = .ok (.arraylength, 1) := by decide +kernel
theorem dX5_learn_81 : decode cX5_learn 81 = .ok (.if_icmp .ge 23, 3) := by decide +kernel
theorem dX5_learn_84 : decode cX5_learn 84 = .ok (.aload_n 0, 1) := by decide +kernel
theorem dX5_learn_85 : decode cX5_learn 85 = .ok (.getfield 25, 3) := by decide +kernel
theorem dX5_learn_88 : decode cX5_learn 88 = .ok (.aload_n 0, 1) := by decide +kernel
theorem dX5_learn_89 : decode cX5_learn 89 = .ok (.getfield 9, 3) := by decide +kernel
theorem dX5_learn_92 : decode cX5_learn 92 = .ok (.iload_n 2, 1) := by decide +kernel
theorem dX5_learn_93 : decode cX5_learn 93 = .ok (.iastore, 1) := by decide +kernel
theorem dX5_learn_94 : decode cX5_learn 94 = .ok (.aload_n 0, 1) := by decide +kernel
theorem dX5_learn_95 : decode cX5_learn 95 = .ok (.dup, 1) := by decide +kernel
theorem dX5_learn_96 : decode cX5_learn 96 = .ok (.getfield 9, 3) := by decide +kernel
theorem dX5_learn_99 : decode cX5_learn 99 = .ok (.iconst 1, 1) := by decide +kernel
theorem dX5_learn_100 : decode cX5_learn 100 = .ok (.iadd, 1) := by decide +kernel
theorem dX5_learn_101 : decode cX5_learn 101 = .ok (.putfield 9, 3) := by decide +kernel
theorem dX5_learn_104 : decode cX5_learn 104 = .ok (.iinc 2 1, 3) := by decide +kernel
theorem dX5_learn_107 : decode cX5_learn 107 = .ok (.goto (-90), 3) := by decide +kernel
theorem dX5_learn_110 : decode cX5_learn 110 = .ok (.return_, 1) := by decide +kernel
theorem dX5_timesOf_0 : decode cX5_timesOf 0 = .ok (.aload_n 0, 1) := by decide +kernel
theorem dX5_timesOf_1 : decode cX5_timesOf 1 = .ok (.getfield 21, 3) := by decide +kernel
theorem dX5_timesOf_4 : decode cX5_timesOf 4 = .ok (.iload_n 1, 1) := by decide +kernel
theorem dX5_timesOf_5 : decode cX5_timesOf 5 = .ok (.invokevirtual 52, 3) := by decide +kernel
theorem dX5_timesOf_8 : decode cX5_timesOf 8 = .ok (.ifCond .eq 21, 3) := by decide +kernel
theorem dX5_timesOf_11 : decode cX5_timesOf 11 = .ok (.iload_n 1, 1) := by decide +kernel
theorem dX5_timesOf_12 : decode cX5_timesOf 12 = .ok (.aload_n 0, 1) := by decide +kernel
theorem dX5_timesOf_13 : decode cX5_timesOf 13 = .ok (.getfield 29, 3) := by decide +kernel
theorem dX5_timesOf_16 : decode cX5_timesOf 16 = .ok (.arraylength, 1) := by decide +kernel
theorem dX5_timesOf_17 : decode cX5_timesOf 17 = .ok (.if_icmp .ge 12, 3) := by decide +kernel
theorem dX5_timesOf_20 : decode cX5_timesOf 20 = .ok (.aload_n 0, 1) := by decide +kernel
theorem dX5_timesOf_21 : decode cX5_timesOf 21 = .ok (.getfield 29, 3) := by decide +kernel
theorem dX5_timesOf_24 : decode cX5_timesOf 24 = .ok (.iload_n 1, 1) := by decide +kernel
theorem dX5_timesOf_25 : decode cX5_timesOf 25 = .ok (.iaload, 1) := by decide +kernel
theorem dX5_timesOf_26 : decode cX5_timesOf 26 = .ok (.goto 4, 3) := by decide +kernel
theorem dX5_timesOf_29 : decode cX5_timesOf 29 = .ok (.iconst 0, 1) := by decide +kernel
theorem dX5_timesOf_30 : decode cX5_timesOf 30 = .ok (.ireturn, 1) := by decide +kernel
theorem dX6_init_0 : decode cX6_init 0 = .ok (.aload_n 0, 1) := by decide +kernel
theorem dX6_init_1 : decode cX6_init 1 = .ok (.invokespecial 3, 3) := by decide +kernel
theorem dX6_init_4 : decode cX6_init 4 = .ok (.aload_n 0, 1) := by decide +kernel
theorem dX6_init_5 : decode cX6_init 5 = .ok (.iconst 5, 1) := by decide +kernel
theorem dX6_init_6 : decode cX6_init 6 = .ok (.newarray .int, 2) := by decide +kernel
theorem dX6_init_8 : decode cX6_init 8 = .ok (.putfield 9, 3) := by decide +kernel
theorem dX6_init_11 : decode cX6_init 11 = .ok (.aload_n 0, 1) := by decide +kernel
theorem dX6_init_12 : decode cX6_init 12 = .ok (.iconst 5, 1) := by decide +kernel
theorem dX6_init_13 : decode cX6_init 13 = .ok (.newarray .int, 2) := by decide +kernel
theorem dX6_init_15 : decode cX6_init 15 = .ok (.putfield 15, 3) := by decide +kernel
theorem dX6_init_18 : decode cX6_init 18 = .ok (.return_, 1) := by decide +kernel
theorem dX6_faultOf_0 : decode cX6_faultOf 0 = .ok (.aload_n 1, 1) := by decide +kernel
theorem dX6_faultOf_1 : decode cX6_faultOf 1 = .ok (.iconst 0, 1) := by decide +kernel
theorem dX6_faultOf_2 : decode cX6_faultOf 2 = .ok (.invokestatic 18, 3) := by decide +kernel
theorem dX6_faultOf_5 : decode cX6_faultOf 5 = .ok (.istore_n 2, 1) := by decide +kernel
theorem dX6_faultOf_6 : decode cX6_faultOf 6 = .ok (.aload_n 1, 1) := by decide +kernel
theorem dX6_faultOf_7 : decode cX6_faultOf 7 = .ok (.iload_n 2, 1) := by decide +kernel
theorem dX6_faultOf_8 : decode cX6_faultOf 8 = .ok (.invokestatic 22, 3) := by decide +kernel
theorem dX6_faultOf_11 : decode cX6_faultOf 11 = .ok (.bipush 119, 2) := by decide +kernel
theorem dX6_faultOf_13 : decode cX6_faultOf 13 = .ok (.if_icmp .eq 5, 3) := by decide +kernel
theorem dX6_faultOf_16 : decode cX6_faultOf 16 = .ok (.iload_n 2, 1) := by decide +kernel
theorem dX6_faultOf_17 : decode cX6_faultOf 17 = .ok (.ireturn, 1) := by decide +kernel
theorem dX6_faultOf_18 : decode cX6_faultOf 18 = .ok (.aload_n 0, 1) := by decide +kernel
theorem dX6_faultOf_19 : decode cX6_faultOf 19 = .ok (.aload_n 1, 1) := by decide +kernel
theorem dX6_faultOf_20 : decode cX6_faultOf 20 = .ok (.iload_n 2, 1) := by decide +kernel
theorem dX6_faultOf_21 : decode cX6_faultOf 21 = .ok (.iconst 1, 1) := by decide +kernel
theorem dX6_faultOf_22 : decode cX6_faultOf 22 = .ok (.iadd, 1) := by decide +kernel
theorem dX6_faultOf_23 : decode cX6_faultOf 23 = .ok (.iconst 1, 1) := by decide +kernel
theorem dX6_faultOf_24 : decode cX6_faultOf 24 = .ok (.iconst 3, 1) := by decide +kernel
theorem dX6_faultOf_25 : decode cX6_faultOf 25 = .ok (.invokestatic 25, 3) := by decide +kernel
theorem dX6_faultOf_28 : decode cX6_faultOf 28 = .ok (.putfield 29, 3) := by decide +kernel
theorem dX6_faultOf_31 : decode cX6_faultOf 31 = .ok (.aload_n 0, 1) := by decide +kernel
theorem dX6_faultOf_32 : decode cX6_faultOf 32 = .ok (.getfield 29, 3) := by decide +kernel
theorem dX6_faultOf_35 : decode cX6_faultOf 35 = .ok (.bipush (-9), 2) := by decide +kernel
theorem dX6_faultOf_37 : decode cX6_faultOf 37 = .ok (.if_icmp .ne 7, 3) := by decide +kernel
theorem dX6_faultOf_40 : decode cX6_faultOf 40 = .ok (.iload_n 2, 1) := by decide +kernel
theorem dX6_faultOf_41 : decode cX6_faultOf 41 = .ok (.iconst 1, 1) := by decide +kernel
theorem dX6_faultOf_42 : decode cX6_faultOf 42 = .ok (.iadd, 1) := by decide +kernel
theorem dX6_faultOf_43 : decode cX6_faultOf 43 = .ok (.ireturn, 1) := by decide +kernel
theorem dX6_faultOf_44 : decode cX6_faultOf 44 = .ok (.aload_n 0, 1) := by decide +kernel
theorem dX6_faultOf_45 : decode cX6_faultOf 45 = .ok (.aload_n 1, 1) := by decide +kernel
theorem dX6_faultOf_46 : decode cX6_faultOf 46 = .ok (.iload_n 2, 1) := by decide +kernel
theorem dX6_faultOf_47 : decode cX6_faultOf 47 = .ok (.iconst 2, 1) := by decide +kernel
theorem dX6_faultOf_48 : decode cX6_faultOf 48 = .ok (.iadd, 1) := by decide +kernel
theorem dX6_faultOf_49 : decode cX6_faultOf 49 = .ok (.iconst 4, 1) := by decide +kernel
theorem dX6_faultOf_50 : decode cX6_faultOf 50 = .ok (.bipush 6, 2) := by decide +kernel
theorem dX6_faultOf_52 : decode cX6_faultOf 52 = .ok (.invokestatic 25, 3) := by decide +kernel
theorem dX6_faultOf_55 : decode cX6_faultOf 55 = .ok (.putfield 33, 3) := by decide +kernel
theorem dX6_faultOf_58 : decode cX6_faultOf 58 = .ok (.aload_n 0, 1) := by decide +kernel
theorem dX6_faultOf_59 : decode cX6_faultOf 59 = .ok (.getfield 33, 3) := by decide +kernel
theorem dX6_faultOf_62 : decode cX6_faultOf 62 = .ok (.bipush (-9), 2) := by decide +kernel
theorem dX6_faultOf_64 : decode cX6_faultOf 64 = .ok (.if_icmp .ne 7, 3) := by decide +kernel
theorem dX6_faultOf_67 : decode cX6_faultOf 67 = .ok (.iload_n 2, 1) := by decide +kernel
theorem dX6_faultOf_68 : decode cX6_faultOf 68 = .ok (.iconst 2, 1) := by decide +kernel
theorem dX6_faultOf_69 : decode cX6_faultOf 69 = .ok (.iadd, 1) := by decide +kernel
theorem dX6_faultOf_70 : decode cX6_faultOf 70 = .ok (.ireturn, 1) := by decide +kernel
theorem dX6_faultOf_71 : decode cX6_faultOf 71 = .ok (.aload_n 0, 1) := by decide +kernel
theorem dX6_faultOf_72 : decode cX6_faultOf 72 = .ok (.aload_n 1, 1) := by decide +kernel
theorem dX6_faultOf_73 : decode cX6_faultOf 73 = .ok (.aload_n 1, 1) := by decide +kernel
theorem dX6_faultOf_74 : decode cX6_faultOf 74 = .ok (.iload_n 2, 1) := by decide +kernel
theorem dX6_faultOf_75 : decode cX6_faultOf 75 = .ok (.iconst 3, 1) := by decide +kernel
theorem dX6_faultOf_76 : decode cX6_faultOf 76 = .ok (.iadd, 1) := by decide +kernel
theorem dX6_faultOf_77 : decode cX6_faultOf 77 = .ok (.invokestatic 18, 3) := by decide +kernel
theorem dX6_faultOf_80 : decode cX6_faultOf 80 = .ok (.invokevirtual 36, 3) := by decide +kernel
theorem dX6_faultOf_83 : decode cX6_faultOf 83 = .ok (.ireturn, 1) := by decide +kernel
theorem dX6_personsFault_0 : decode cX6_personsFault 0 = .ok (.iload_n 2, 1) := by decide +kernel
theorem dX6_personsFault_1 : decode cX6_personsFault 1 = .ok (.istore_n 3, 1) := by decide +kernel
theorem dX6_personsFault_2 : decode cX6_personsFault 2 = .ok (.iconst 0, 1) := by decide +kernel
theorem dX6_personsFault_3 : decode cX6_personsFault 3 = .ok (.istore 4, 2) := by decide +kernel
theorem dX6_personsFault_5 : decode cX6_personsFault 5 = .ok (.iload 4, 2) := by decide +kernel
theorem dX6_personsFault_7 : decode cX6_personsFault 7 = .ok (.iconst 5, 1) := by decide +kernel
theorem dX6_personsFault_8 : decode cX6_personsFault 8 = .ok (.if_icmp .ge 106, 3) := by decide +kernel
theorem dX6_personsFault_11 : decode cX6_personsFault 11 = .ok (.iload_n 3, 1) := by decide +kernel
theorem dX6_personsFault_12 : decode cX6_personsFault 12 = .ok (.aload_n 1, 1) := by decide +kernel
theorem dX6_personsFault_13 : decode cX6_personsFault 13 = .ok (.getfield 39, 3) := by decide +kernel
theorem dX6_personsFault_16 : decode cX6_personsFault 16 = .ok (.if_icmp .lt 15, 3) := by decide +kernel
theorem dX6_personsFault_19 : decode cX6_personsFault 19 = .ok (.iload 4, 2) := by decide +kernel
theorem dX6_personsFault_21 : decode cX6_personsFault 21 = .ok (.ifCond .ne 7, 3) := by decide +kernel
theorem dX6_personsFault_24 : decode cX6_personsFault 24 = .ok (.iload_n 3, 1) := by decide +kernel
theorem dX6_personsFault_25 : decode cX6_personsFault 25 = .ok (.goto 5, 3) := by decide +kernel
theorem dX6_personsFault_28 : decode cX6_personsFault 28 = .ok (.bipush (-9), 2) := by decide +kernel
theorem dX6_personsFault_30 : decode cX6_personsFault 30 = .ok (.ireturn, 1) := by decide +kernel
theorem dX6_personsFault_31 : decode cX6_personsFault 31 = .ok (.aload_n 0, 1) := by decide +kernel
theorem dX6_personsFault_32 : decode cX6_personsFault 32 = .ok (.getfield 9, 3) := by decide +kernel
theorem dX6_personsFault_35 : decode cX6_personsFault 35 = .ok (.iload 4, 2) := by decide +kernel
theorem dX6_personsFault_37 : decode cX6_personsFault 37 = .ok (.aload_n 1, 1) := by decide +kernel
theorem dX6_personsFault_38 : decode cX6_personsFault 38 = .ok (.iload_n 3, 1) := by decide +kernel
theorem dX6_personsFault_39 : decode cX6_personsFault 39 = .ok (.invokestatic 22, 3) := by decide +kernel
theorem dX6_personsFault_42 : decode cX6_personsFault 42 = .ok (.invokestatic 44, 3) := by decide +kernel
theorem dX6_personsFault_45 : decode cX6_personsFault 45 = .ok (.iastore, 1) := by decide +kernel
theorem dX6_personsFault_46 : decode cX6_personsFault 46 = .ok (.aload_n 0, 1) := by decide +kernel
theorem dX6_personsFault_47 : decode cX6_personsFault 47 = .ok (.getfield 9, 3) := by decide +kernel
theorem dX6_personsFault_50 : decode cX6_personsFault 50 = .ok (.iload 4, 2) := by decide +kernel
theorem dX6_personsFault_52 : decode cX6_personsFault 52 = .ok (.iaload, 1) := by decide +kernel
theorem dX6_personsFault_53 : decode cX6_personsFault 53 = .ok (.bipush (-9), 2) := by decide +kernel
theorem dX6_personsFault_55 : decode cX6_personsFault 55 = .ok (.if_icmp .ne 5, 3) := by decide +kernel
theorem dX6_personsFault_58 : decode cX6_personsFault 58 = .ok (.iload_n 3, 1) := by decide +kernel
theorem dX6_personsFault_59 : decode cX6_personsFault 59 = .ok (.ireturn, 1) := by decide +kernel
theorem dX6_personsFault_60 : decode cX6_personsFault 60 = .ok (.aload_n 0, 1) := by decide +kernel
theorem dX6_personsFault_61 : decode cX6_personsFault 61 = .ok (.getfield 15, 3) := by decide +kernel
theorem dX6_personsFault_64 : decode cX6_personsFault 64 = .ok (.iload 4, 2) := by decide +kernel
theorem dX6_personsFault_66 : decode cX6_personsFault 66 = .ok (.aload_n 1, 1) := by decide +kernel
theorem dX6_personsFault_67 : decode cX6_personsFault 67 = .ok (.iload_n 3, 1) := by decide +kernel
theorem dX6_personsFault_68 : decode cX6_personsFault 68 = .ok (.iconst 1, 1) := by decide +kernel
theorem dX6_personsFault_69 : decode cX6_personsFault 69 = .ok (.iadd, 1) := by decide +kernel
theorem dX6_personsFault_70 : decode cX6_personsFault 70 = .ok (.iconst 1, 1) := by decide +kernel
theorem dX6_personsFault_71 : decode cX6_personsFault 71 = .ok (.iconst 3, 1) := by decide +kernel
theorem dX6_personsFault_72 : decode cX6_personsFault 72 = .ok (.invokestatic 25, 3) := by decide +kernel
theorem dX6_personsFault_75 : decode cX6_personsFault 75 = .ok (.iastore, 1) := by decide +kernel
theorem dX6_personsFault_76 : decode cX6_personsFault 76 = .ok (.aload_n 0, 1) := by decide +kernel
theorem dX6_personsFault_77 : decode cX6_personsFault 77 = .ok (.getfield 15, 3) := by decide +kernel
theorem dX6_personsFault_80 : decode cX6_personsFault 80 = .ok (.iload 4, 2) := by decide +kernel
theorem dX6_personsFault_82 : decode cX6_personsFault 82 = .ok (.iaload, 1) := by decide +kernel
theorem dX6_personsFault_83 : decode cX6_personsFault 83 = .ok (.bipush (-9), 2) := by decide +kernel
theorem dX6_personsFault_85 : decode cX6_personsFault 85 = .ok (.if_icmp .ne 7, 3) := by decide +kernel
theorem dX6_personsFault_88 : decode cX6_personsFault 88 = .ok (.iload_n 3, 1) := by decide +kernel
theorem dX6_personsFault_89 : decode cX6_personsFault 89 = .ok (.iconst 1, 1) := by decide +kernel
theorem dX6_personsFault_90 : decode cX6_personsFault 90 = .ok (.iadd, 1) := by decide +kernel
theorem dX6_personsFault_91 : decode cX6_personsFault 91 = .ok (.ireturn, 1) := by decide +kernel
theorem dX6_personsFault_92 : decode cX6_personsFault 92 = .ok (.aload_n 0, 1) := by decide +kernel
theorem dX6_personsFault_93 : decode cX6_personsFault 93 = .ok (.iload 4, 2) := by decide +kernel
theorem dX6_personsFault_95 : decode cX6_personsFault 95 = .ok (.iconst 1, 1) := by decide +kernel
theorem dX6_personsFault_96 : decode cX6_personsFault 96 = .ok (.iadd, 1) := by decide +kernel
theorem dX6_personsFault_97 : decode cX6_personsFault 97 = .ok (.putfield 48, 3) := by decide +kernel
theorem dX6_personsFault_100 : decode cX6_personsFault 100 = .ok (.aload_n 1, 1) := by decide +kernel
theorem dX6_personsFault_101 : decode cX6_personsFault 101 = .ok (.iload_n 3, 1) := by decide +kernel
theorem dX6_personsFault_102 : decode cX6_personsFault 102 = .ok (.iconst 2, 1) := by decide +kernel
theorem dX6_personsFault_103 : decode cX6_personsFault 103 = .ok (.iadd, 1) := by decide +kernel
theorem dX6_personsFault_104 : decode cX6_personsFault 104 = .ok (.invokestatic 18, 3) := by decide +kernel
theorem dX6_personsFault_107 : decode cX6_personsFault 107 = .ok (.istore_n 3, 1) := by decide +kernel
theorem dX6_personsFault_108 : decode cX6_personsFault 108 = .ok (.iinc 4 1, 3) := by decide +kernel
theorem dX6_personsFault_111 : decode cX6_personsFault 111 = .ok (.goto (-106), 3) := by decide +kernel
theorem dX6_personsFault_114 : decode cX6_personsFault 114 = .ok (.iload_n 3, 1) := by decide +kernel
theorem dX6_personsFault_115 : decode cX6_personsFault 115 = .ok (.aload_n 1, 1) := by decide +kernel
theorem dX6_personsFault_116 : decode cX6_personsFault 116 = .ok (.getfield 39, 3) := by decide +kernel
theorem dX6_personsFault_119 : decode cX6_personsFault 119 = .ok (.if_icmp .lt 8, 3) := by decide +kernel
theorem dX6_personsFault_122 : decode cX6_personsFault 122 = .ok (.bipush (-9), 2) := by decide +kernel
theorem dX6_personsFault_124 : decode cX6_personsFault 124 = .ok (.goto 4, 3) := by decide +kernel
theorem dX6_personsFault_127 : decode cX6_personsFault 127 = .ok (.iload_n 3, 1) := by decide +kernel
theorem dX6_personsFault_128 : decode cX6_personsFault 128 = .ok (.ireturn, 1) := by decide +kernel
theorem dX6_behindBlanks_0 : decode cX6_behindBlanks 0 = .ok (.iload_n 1, 1) := by decide +kernel
theorem dX6_behindBlanks_1 : decode cX6_behindBlanks 1 = .ok (.istore_n 2, 1) := by decide +kernel
theorem dX6_behindBlanks_2 : decode cX6_behindBlanks 2 = .ok (.iload_n 2, 1) := by decide +kernel
theorem dX6_behindBlanks_3 : decode cX6_behindBlanks 3 = .ok (.aload_n 0, 1) := by decide +kernel
theorem dX6_behindBlanks_4 : decode cX6_behindBlanks 4 = .ok (.getfield 39, 3) := by decide +kernel
theorem dX6_behindBlanks_7 : decode cX6_behindBlanks 7 = .ok (.if_icmp .ge 19, 3) := by decide +kernel
theorem dX6_behindBlanks_10 : decode cX6_behindBlanks 10 = .ok (.aload_n 0, 1) := by decide +kernel
theorem dX6_behindBlanks_11 : decode cX6_behindBlanks 11 = .ok (.iload_n 2, 1) := by decide +kernel
theorem dX6_behindBlanks_12 : decode cX6_behindBlanks 12 = .ok (.invokestatic 22, 3) := by decide +kernel
theorem dX6_behindBlanks_15 : decode cX6_behindBlanks 15 = .ok (.bipush 32, 2) := by decide +kernel
theorem dX6_behindBlanks_17 : decode cX6_behindBlanks 17 = .ok (.if_icmp .ne 9, 3) := by decide +kernel
theorem dX6_behindBlanks_20 : decode cX6_behindBlanks 20 = .ok (.iinc 2 1, 3) := by decide +kernel
theorem dX6_behindBlanks_23 : decode cX6_behindBlanks 23 = .ok (.goto (-21), 3) := by decide +kernel
theorem dX6_behindBlanks_26 : decode cX6_behindBlanks 26 = .ok (.iload_n 2, 1) := by decide +kernel
theorem dX6_behindBlanks_27 : decode cX6_behindBlanks 27 = .ok (.ireturn, 1) := by decide +kernel
theorem dX6_signAt_0 : decode cX6_signAt 0 = .ok (.aload_n 0, 1) := by decide +kernel
theorem dX6_signAt_1 : decode cX6_signAt 1 = .ok (.iload_n 1, 1) := by decide +kernel
theorem dX6_signAt_2 : decode cX6_signAt 2 = .ok (.invokevirtual 51, 3) := by decide +kernel
theorem dX6_signAt_5 : decode cX6_signAt 5 = .ok (.ifCond .eq 12, 3) := by decide +kernel
theorem dX6_signAt_8 : decode cX6_signAt 8 = .ok (.aload_n 0, 1) := by decide +kernel
theorem dX6_signAt_9 : decode cX6_signAt 9 = .ok (.getfield 55, 3) := by decide +kernel
theorem dX6_signAt_12 : decode cX6_signAt 12 = .ok (.iload_n 1, 1) := by decide +kernel
theorem dX6_signAt_13 : decode cX6_signAt 13 = .ok (.iaload, 1) := by decide +kernel
theorem dX6_signAt_14 : decode cX6_signAt 14 = .ok (.goto 6, 3) := by decide +kernel
theorem dX6_signAt_17 : decode cX6_signAt 17 = .ok (.sipush 1000, 3) := by decide +kernel
theorem dX6_signAt_20 : decode cX6_signAt 20 = .ok (.ireturn, 1) := by decide +kernel
theorem dX6_figureAt_0 : decode cX6_figureAt 0 = .ok (.aload_n 0, 1) := by decide +kernel
theorem dX6_figureAt_1 : decode cX6_figureAt 1 = .ok (.iload_n 1, 1) := by decide +kernel
theorem dX6_figureAt_2 : decode cX6_figureAt 2 = .ok (.invokestatic 22, 3) := by decide +kernel
theorem dX6_figureAt_5 : decode cX6_figureAt 5 = .ok (.bipush 48, 2) := by decide +kernel
theorem dX6_figureAt_7 : decode cX6_figureAt 7 = .ok (.isub, 1) := by decide +kernel
theorem dX6_figureAt_8 : decode cX6_figureAt 8 = .ok (.istore 4, 2) := by decide +kernel
theorem dX6_figureAt_10 : decode cX6_figureAt 10 = .ok (.iload 4, 2) := by decide +kernel
theorem dX6_figureAt_12 : decode cX6_figureAt 12 = .ok (.iload_n 2, 1) := by decide +kernel
theorem dX6_figureAt_13 : decode cX6_figureAt 13 = .ok (.if_icmp .lt 9, 3) := by decide +kernel
theorem dX6_figureAt_16 : decode cX6_figureAt 16 = .ok (.iload 4, 2) := by decide +kernel
theorem dX6_figureAt_18 : decode cX6_figureAt 18 = .ok (.iload_n 3, 1) := by decide +kernel
theorem dX6_figureAt_19 : decode cX6_figureAt 19 = .ok (.if_icmp .le 8, 3) := by decide +kernel
theorem dX6_figureAt_22 : decode cX6_figureAt 22 = .ok (.bipush (-9), 2) := by decide +kernel
theorem dX6_figureAt_24 : decode cX6_figureAt 24 = .ok (.goto 5, 3) := by decide +kernel
theorem dX6_figureAt_27 : decode cX6_figureAt 27 = .ok (.iload 4, 2) := by decide +kernel
theorem dX6_figureAt_29 : decode cX6_figureAt 29 = .ok (.ireturn, 1) := by decide +kernel
theorem dX6_kindOf_0 : decode cX6_kindOf 0 = .ok (.iload_n 0, 1) := by decide +kernel
theorem dX6_kindOf_1 : decode cX6_kindOf 1 = .ok (.tableswitch 91 97 112 #[83, 85, 91, 91, 81, 91, 91, 91, 91, 91, 91, 89, 91, 91, 87, 79], 79) := by decide +kernel
theorem dX6_kindOf_80 : decode cX6_kindOf 80 = .ok (.iconst 0, 1) := by decide +kernel
theorem dX6_kindOf_81 : decode cX6_kindOf 81 = .ok (.ireturn, 1) := by decide +kernel
theorem dX6_kindOf_82 : decode cX6_kindOf 82 = .ok (.iconst 1, 1) := by decide +kernel
theorem dX6_kindOf_83 : decode cX6_kindOf 83 = .ok (.ireturn, 1) := by decide +kernel
theorem dX6_kindOf_84 : decode cX6_kindOf 84 = .ok (.iconst 2, 1) := by decide +kernel
theorem dX6_kindOf_85 : decode cX6_kindOf 85 = .ok (.ireturn, 1) := by decide +kernel
theorem dX6_kindOf_86 : decode cX6_kindOf 86 = .ok (.iconst 3, 1) := by decide +kernel
theorem dX6_kindOf_87 : decode cX6_kindOf 87 = .ok (.ireturn, 1) := by decide +kernel
theorem dX6_kindOf_88 : decode cX6_kindOf 88 = .ok (.iconst 4, 1) := by decide +kernel
theorem dX6_kindOf_89 : decode cX6_kindOf 89 = .ok (.ireturn, 1) := by decide +kernel
theorem dX6_kindOf_90 : decode cX6_kindOf 90 = .ok (.iconst 5, 1) := by decide +kernel
theorem dX6_kindOf_91 : decode cX6_kindOf 91 = .ok (.ireturn, 1) := by decide +kernel
theorem dX6_kindOf_92 : decode cX6_kindOf 92 = .ok (.bipush (-9), 2) := by decide +kernel
theorem dX6_kindOf_94 : decode cX6_kindOf 94 = .ok (.ireturn, 1) := by decide +kernel
theorem dX7_init_0 : decode cX7_init 0 = .ok (.aload_n 0, 1) := by decide +kernel
theorem dX7_init_1 : decode cX7_init 1 = .ok (.invokespecial 3, 3) := by decide +kernel
theorem dX7_init_4 : decode cX7_init 4 = .ok (.aload_n 0, 1) := by decide +kernel
theorem dX7_init_5 : decode cX7_init 5 = .ok (.iconst (-1), 1) := by decide +kernel
theorem dX7_init_6 : decode cX7_init 6 = .ok (.putfield 9, 3) := by decide +kernel
theorem dX7_init_9 : decode cX7_init 9 = .ok (.aload_n 0, 1) := by decide +kernel
theorem dX7_init_10 : decode cX7_init 10 = .ok (.iconst 0, 1) := by decide +kernel
theorem dX7_init_11 : decode cX7_init 11 = .ok (.iload_n 1, 1) := by decide +kernel
theorem dX7_init_12 : decode cX7_init 12 = .ok (.invokestatic 15, 3) := by decide +kernel
theorem dX7_init_15 : decode cX7_init 15 = .ok (.newarray .int, 2) := by decide +kernel
theorem dX7_init_17 : decode cX7_init 17 = .ok (.putfield 21, 3) := by decide +kernel
theorem dX7_init_20 : decode cX7_init 20 = .ok (.return_, 1) := by decide +kernel
theorem dX7_isMissing_0 : decode cX7_isMissing 0 = .ok (.aload_n 0, 1) := by decide +kernel
theorem dX7_isMissing_1 : decode cX7_isMissing 1 = .ok (.getfield 9, 3) := by decide +kernel
theorem dX7_isMissing_4 : decode cX7_isMissing 4 = .ok (.ifCond .ge 7, 3) := by decide +kernel
theorem dX7_isMissing_7 : decode cX7_isMissing 7 = .ok (.iconst 1, 1) := by decide +kernel
theorem dX7_isMissing_8 : decode cX7_isMissing 8 = .ok (.goto 4, 3) := by decide +kernel
theorem dX7_isMissing_11 : decode cX7_isMissing 11 = .ok (.iconst 0, 1) := by decide +kernel
theorem dX7_isMissing_12 : decode cX7_isMissing 12 = .ok (.ireturn, 1) := by decide +kernel
theorem dX7_has_0 : decode cX7_has 0 = .ok (.iload_n 1, 1) := by decide +kernel
theorem dX7_has_1 : decode cX7_has 1 = .ok (.ifCond .lt 15, 3) := by decide +kernel
theorem dX7_has_4 : decode cX7_has 4 = .ok (.iload_n 1, 1) := by decide +kernel
theorem dX7_has_5 : decode cX7_has 5 = .ok (.aload_n 0, 1) := by decide +kernel
theorem dX7_has_6 : decode cX7_has 6 = .ok (.getfield 9, 3) := by decide +kernel
theorem dX7_has_9 : decode cX7_has 9 = .ok (.if_icmp .ge 7, 3) := by decide +kernel
theorem dX7_has_12 : decode cX7_has 12 = .ok (.iconst 1, 1) := by decide +kernel
theorem dX7_has_13 : decode cX7_has 13 = .ok (.goto 4, 3) := by decide +kernel
theorem dX7_has_16 : decode cX7_has 16 = .ok (.iconst 0, 1) := by decide +kernel
theorem dX7_has_17 : decode cX7_has 17 = .ok (.ireturn, 1) := by decide +kernel
theorem dX7_hasRun_0 : decode cX7_hasRun 0 = .ok (.iload_n 1, 1) := by decide +kernel
theorem dX7_hasRun_1 : decode cX7_hasRun 1 = .ok (.ifCond .lt 21, 3) := by decide +kernel
theorem dX7_hasRun_4 : decode cX7_hasRun 4 = .ok (.iload_n 2, 1) := by decide +kernel
theorem dX7_hasRun_5 : decode cX7_hasRun 5 = .ok (.ifCond .lt 17, 3) := by decide +kernel
theorem dX7_hasRun_8 : decode cX7_hasRun 8 = .ok (.iload_n 2, 1) := by decide +kernel
theorem dX7_hasRun_9 : decode cX7_hasRun 9 = .ok (.aload_n 0, 1) := by decide +kernel
theorem dX7_hasRun_10 : decode cX7_hasRun 10 = .ok (.getfield 9, 3) := by decide +kernel
theorem dX7_hasRun_13 : decode cX7_hasRun 13 = .ok (.iload_n 1, 1) := by decide +kernel
theorem dX7_hasRun_14 : decode cX7_hasRun 14 = .ok (.isub, 1) := by decide +kernel
theorem dX7_hasRun_15 : decode cX7_hasRun 15 = .ok (.if_icmp .gt 7, 3) := by decide +kernel
theorem dX7_hasRun_18 : decode cX7_hasRun 18 = .ok (.iconst 1, 1) := by decide +kernel
theorem dX7_hasRun_19 : decode cX7_hasRun 19 = .ok (.goto 4, 3) := by decide +kernel
theorem dX7_hasRun_22 : decode cX7_hasRun 22 = .ok (.iconst 0, 1) := by decide +kernel
theorem dX7_hasRun_23 : decode cX7_hasRun 23 = .ok (.ireturn, 1) := by decide +kernel
theorem dX7_make_0 : decode cX7_make 0 = .ok (.aload_n 0, 1) := by decide +kernel
theorem dX7_make_1 : decode cX7_make 1 = .ok (.iload_n 1, 1) := by decide +kernel
theorem dX7_make_2 : decode cX7_make 2 = .ok (.aload_n 0, 1) := by decide +kernel
theorem dX7_make_3 : decode cX7_make 3 = .ok (.getfield 21, 3) := by decide +kernel
theorem dX7_make_6 : decode cX7_make 6 = .ok (.arraylength, 1) := by decide +kernel
theorem dX7_make_7 : decode cX7_make 7 = .ok (.invokestatic 25, 3) := by decide +kernel
theorem dX7_make_10 : decode cX7_make 10 = .ok (.putfield 9, 3) := by decide +kernel
theorem dX7_make_13 : decode cX7_make 13 = .ok (.iconst 0, 1) := by decide +kernel
theorem dX7_make_14 : decode cX7_make 14 = .ok (.istore_n 3, 1) := by decide +kernel
theorem dX7_make_15 : decode cX7_make 15 = .ok (.iload_n 3, 1) := by decide +kernel
theorem dX7_make_16 : decode cX7_make 16 = .ok (.aload_n 0, 1) := by decide +kernel
theorem dX7_make_17 : decode cX7_make 17 = .ok (.getfield 9, 3) := by decide +kernel
theorem dX7_make_20 : decode cX7_make 20 = .ok (.if_icmp .ge 16, 3) := by decide +kernel
theorem dX7_make_23 : decode cX7_make 23 = .ok (.aload_n 0, 1) := by decide +kernel
theorem dX7_make_24 : decode cX7_make 24 = .ok (.getfield 21, 3) := by decide +kernel
theorem dX7_make_27 : decode cX7_make 27 = .ok (.iload_n 3, 1) := by decide +kernel
theorem dX7_make_28 : decode cX7_make 28 = .ok (.iload_n 2, 1) := by decide +kernel
theorem dX7_make_29 : decode cX7_make 29 = .ok (.iastore, 1) := by decide +kernel
theorem dX7_make_30 : decode cX7_make 30 = .ok (.iinc 3 1, 3) := by decide +kernel
theorem dX7_make_33 : decode cX7_make 33 = .ok (.goto (-18), 3) := by decide +kernel
theorem dX7_make_36 : decode cX7_make 36 = .ok (.return_, 1) := by decide +kernel
theorem dX7_sum_0 : decode cX7_sum 0 = .ok (.lconst 0, 1) := by decide +kernel
theorem dX7_sum_1 : decode cX7_sum 1 = .ok (.lstore_n 1, 1) := by decide +kernel
theorem dX7_sum_2 : decode cX7_sum 2 = .ok (.iconst 0, 1) := by decide +kernel
theorem dX7_sum_3 : decode cX7_sum 3 = .ok (.istore_n 3, 1) := by decide +kernel
theorem dX7_sum_4 : decode cX7_sum 4 = .ok (.iload_n 3, 1) := by decide +kernel
theorem dX7_sum_5 : decode cX7_sum 5 = .ok (.aload_n 0, 1) := by decide +kernel
theorem dX7_sum_6 : decode cX7_sum 6 = .ok (.getfield 9, 3) := by decide +kernel
theorem dX7_sum_9 : decode cX7_sum 9 = .ok (.if_icmp .ge 19, 3) := by decide +kernel
theorem dX7_sum_12 : decode cX7_sum 12 = .ok (.lload_n 1, 1) := by decide +kernel
theorem dX7_sum_13 : decode cX7_sum 13 = .ok (.aload_n 0, 1) := by decide +kernel
theorem dX7_sum_14 : decode cX7_sum 14 = .ok (.getfield 21, 3) := by decide +kernel
theorem dX7_sum_17 : decode cX7_sum 17 = .ok (.iload_n 3, 1) := by decide +kernel
theorem dX7_sum_18 : decode cX7_sum 18 = .ok (.iaload, 1) := by decide +kernel
theorem dX7_sum_19 : decode cX7_sum 19 = .ok (.i2l, 1) := by decide +kernel
theorem dX7_sum_20 : decode cX7_sum 20 = .ok (.ladd, 1) := by decide +kernel
theorem dX7_sum_21 : decode cX7_sum 21 = .ok (.lstore_n 1, 1) := by decide +kernel
theorem dX7_sum_22 : decode cX7_sum 22 = .ok (.iinc 3 1, 3) := by decide +kernel
theorem dX7_sum_25 : decode cX7_sum 25 = .ok (.goto (-21), 3) := by decide +kernel
theorem dX7_sum_28 : decode cX7_sum 28 = .ok (.lload_n 1, 1) := by decide +kernel
theorem dX7_sum_29 : decode cX7_sum 29 = .ok (.lreturn, 1) := by decide +kernel
theorem dX9_init_0 : decode cX9_init 0 = .ok (.aload_n 0, 1) := by decide +kernel
theorem dX9_init_1 : decode cX9_init 1 = .ok (.invokespecial 3, 3) := by decide +kernel
theorem dX9_init_4 : decode cX9_init 4 = .ok (.aload_n 0, 1) := by decide +kernel
theorem dX9_init_5 : decode cX9_init 5 = .ok (.iconst 5, 1) := by decide +kernel
theorem dX9_init_6 : decode cX9_init 6 = .ok (.newarray .int, 2) := by decide +kernel
theorem dX9_init_8 : decode cX9_init 8 = .ok (.putfield 9, 3) := by decide +kernel
theorem dX9_init_11 : decode cX9_init 11 = .ok (.aload_n 0, 1) := by decide +kernel
theorem dX9_init_12 : decode cX9_init 12 = .ok (.bipush 16, 2) := by decide +kernel
theorem dX9_init_14 : decode cX9_init 14 = .ok (.newarray .int, 2) := by decide +kernel
theorem dX9_init_16 : decode cX9_init 16 = .ok (.putfield 15, 3) := by decide +kernel
theorem dX9_init_19 : decode cX9_init 19 = .ok (.aload_n 0, 1) := by decide +kernel
theorem dX9_init_20 : decode cX9_init 20 = .ok (.bipush 16, 2) := by decide +kernel
theorem dX9_init_22 : decode cX9_init 22 = .ok (.newarray .int, 2) := by decide +kernel
theorem dX9_init_24 : decode cX9_init 24 = .ok (.putfield 18, 3) := by decide +kernel
theorem dX9_init_27 : decode cX9_init 27 = .ok (.aload_n 0, 1) := by decide +kernel
theorem dX9_init_28 : decode cX9_init 28 = .ok (.iload_n 1, 1) := by decide +kernel
theorem dX9_init_29 : decode cX9_init 29 = .ok (.putfield 21, 3) := by decide +kernel
theorem dX9_init_32 : decode cX9_init 32 = .ok (.return_, 1) := by decide +kernel
theorem dX9_isFull_0 : decode cX9_isFull 0 = .ok (.aload_n 0, 1) := by decide +kernel
theorem dX9_isFull_1 : decode cX9_isFull 1 = .ok (.getfield 21, 3) := by decide +kernel
theorem dX9_isFull_4 : decode cX9_isFull 4 = .ok (.bipush 16, 2) := by decide +kernel
theorem dX9_isFull_6 : decode cX9_isFull 6 = .ok (.if_icmp .lt 7, 3) := by decide +kernel
theorem dX9_isFull_9 : decode cX9_isFull 9 = .ok (.iconst 1, 1) := by decide +kernel
theorem dX9_isFull_10 : decode cX9_isFull 10 = .ok (.goto 4, 3) := by decide +kernel
theorem dX9_isFull_13 : decode cX9_isFull 13 = .ok (.iconst 0, 1) := by decide +kernel
theorem dX9_isFull_14 : decode cX9_isFull 14 = .ok (.ireturn, 1) := by decide +kernel
theorem dX9_add_0 : decode cX9_add 0 = .ok (.aload_n 0, 1) := by decide +kernel
theorem dX9_add_1 : decode cX9_add 1 = .ok (.getfield 21, 3) := by decide +kernel
theorem dX9_add_4 : decode cX9_add 4 = .ok (.ifCond .lt 40, 3) := by decide +kernel
theorem dX9_add_7 : decode cX9_add 7 = .ok (.aload_n 0, 1) := by decide +kernel
theorem dX9_add_8 : decode cX9_add 8 = .ok (.invokevirtual 25, 3) := by decide +kernel
theorem dX9_add_11 : decode cX9_add 11 = .ok (.ifCond .ne 33, 3) := by decide +kernel
theorem dX9_add_14 : decode cX9_add 14 = .ok (.aload_n 0, 1) := by decide +kernel
theorem dX9_add_15 : decode cX9_add 15 = .ok (.getfield 15, 3) := by decide +kernel
theorem dX9_add_18 : decode cX9_add 18 = .ok (.aload_n 0, 1) := by decide +kernel
theorem dX9_add_19 : decode cX9_add 19 = .ok (.getfield 21, 3) := by decide +kernel
theorem dX9_add_22 : decode cX9_add 22 = .ok (.iload_n 1, 1) := by decide +kernel
theorem dX9_add_23 : decode cX9_add 23 = .ok (.iastore, 1) := by decide +kernel
theorem dX9_add_24 : decode cX9_add 24 = .ok (.aload_n 0, 1) := by decide +kernel
theorem dX9_add_25 : decode cX9_add 25 = .ok (.getfield 18, 3) := by decide +kernel
theorem dX9_add_28 : decode cX9_add 28 = .ok (.aload_n 0, 1) := by decide +kernel
theorem dX9_add_29 : decode cX9_add 29 = .ok (.getfield 21, 3) := by decide +kernel
theorem dX9_add_32 : decode cX9_add 32 = .ok (.iload_n 2, 1) := by decide +kernel
theorem dX9_add_33 : decode cX9_add 33 = .ok (.iastore, 1) := by decide +kernel
theorem dX9_add_34 : decode cX9_add 34 = .ok (.aload_n 0, 1) := by decide +kernel
theorem dX9_add_35 : decode cX9_add 35 = .ok (.dup, 1) := by decide +kernel
theorem dX9_add_36 : decode cX9_add 36 = .ok (.getfield 21, 3) := by decide +kernel
theorem dX9_add_39 : decode cX9_add 39 = .ok (.iconst 1, 1) := by decide +kernel
theorem dX9_add_40 : decode cX9_add 40 = .ok (.iadd, 1) := by decide +kernel
theorem dX9_add_41 : decode cX9_add 41 = .ok (.putfield 21, 3) := by decide +kernel
theorem dX9_add_44 : decode cX9_add 44 = .ok (.return_, 1) := by decide +kernel
theorem dX9_takeFrom_0 : decode cX9_takeFrom 0 = .ok (.aload_n 0, 1) := by decide +kernel
theorem dX9_takeFrom_1 : decode cX9_takeFrom 1 = .ok (.aload_n 1, 1) := by decide +kernel
theorem dX9_takeFrom_2 : decode cX9_takeFrom 2 = .ok (.getfield 21, 3) := by decide +kernel
theorem dX9_takeFrom_5 : decode cX9_takeFrom 5 = .ok (.putfield 21, 3) := by decide +kernel
theorem dX9_takeFrom_8 : decode cX9_takeFrom 8 = .ok (.aload_n 1, 1) := by decide +kernel
theorem dX9_takeFrom_9 : decode cX9_takeFrom 9 = .ok (.getfield 9, 3) := by decide +kernel
theorem dX9_takeFrom_12 : decode cX9_takeFrom 12 = .ok (.iconst 0, 1) := by decide +kernel
theorem dX9_takeFrom_13 : decode cX9_takeFrom 13 = .ok (.aload_n 0, 1) := by decide +kernel
theorem dX9_takeFrom_14 : decode cX9_takeFrom 14 = .ok (.getfield 9, 3) := by decide +kernel
theorem dX9_takeFrom_17 : decode cX9_takeFrom 17 = .ok (.iconst 0, 1) := by decide +kernel
theorem dX9_takeFrom_18 : decode cX9_takeFrom 18 = .ok (.iconst 5, 1) := by decide +kernel
theorem dX9_takeFrom_19 : decode cX9_takeFrom 19 = .ok (.invokestatic 29, 3) := by decide +kernel
theorem dX9_takeFrom_22 : decode cX9_takeFrom 22 = .ok (.aload_n 1, 1) := by decide +kernel
theorem dX9_takeFrom_23 : decode cX9_takeFrom 23 = .ok (.getfield 15, 3) := by decide +kernel
theorem dX9_takeFrom_26 : decode cX9_takeFrom 26 = .ok (.iconst 0, 1) := by decide +kernel
theorem dX9_takeFrom_27 : decode cX9_takeFrom 27 = .ok (.aload_n 0, 1) := by decide +kernel
theorem dX9_takeFrom_28 : decode cX9_takeFrom 28 = .ok (.getfield 15, 3) := by decide +kernel
theorem dX9_takeFrom_31 : decode cX9_takeFrom 31 = .ok (.iconst 0, 1) := by decide +kernel
theorem dX9_takeFrom_32 : decode cX9_takeFrom 32 = .ok (.bipush 16, 2) := by decide +kernel
theorem dX9_takeFrom_34 : decode cX9_takeFrom 34 = .ok (.invokestatic 29, 3) := by decide +kernel
theorem dX9_takeFrom_37 : decode cX9_takeFrom 37 = .ok (.aload_n 1, 1) := by decide +kernel
theorem dX9_takeFrom_38 : decode cX9_takeFrom 38 = .ok (.getfield 18, 3) := by decide +kernel
theorem dX9_takeFrom_41 : decode cX9_takeFrom 41 = .ok (.iconst 0, 1) := by decide +kernel
theorem dX9_takeFrom_42 : decode cX9_takeFrom 42 = .ok (.aload_n 0, 1) := by decide +kernel
theorem dX9_takeFrom_43 : decode cX9_takeFrom 43 = .ok (.getfield 18, 3) := by decide +kernel
theorem dX9_takeFrom_46 : decode cX9_takeFrom 46 = .ok (.iconst 0, 1) := by decide +kernel
theorem dX9_takeFrom_47 : decode cX9_takeFrom 47 = .ok (.bipush 16, 2) := by decide +kernel
theorem dX9_takeFrom_49 : decode cX9_takeFrom 49 = .ok (.invokestatic 29, 3) := by decide +kernel
theorem dX9_takeFrom_52 : decode cX9_takeFrom 52 = .ok (.return_, 1) := by decide +kernel
theorem dX9_looksAt_0 : decode cX9_looksAt 0 = .ok (.iconst 0, 1) := by decide +kernel
theorem dX9_looksAt_1 : decode cX9_looksAt 1 = .ok (.istore_n 2, 1) := by decide +kernel
theorem dX9_looksAt_2 : decode cX9_looksAt 2 = .ok (.iconst 0, 1) := by decide +kernel
theorem dX9_looksAt_3 : decode cX9_looksAt 3 = .ok (.istore_n 3, 1) := by decide +kernel
theorem dX9_looksAt_4 : decode cX9_looksAt 4 = .ok (.iload_n 3, 1) := by decide +kernel
theorem dX9_looksAt_5 : decode cX9_looksAt 5 = .ok (.aload_n 0, 1) := by decide +kernel
theorem dX9_looksAt_6 : decode cX9_looksAt 6 = .ok (.getfield 21, 3) := by decide +kernel
theorem dX9_looksAt_9 : decode cX9_looksAt 9 = .ok (.if_icmp .ge 27, 3) := by decide +kernel
theorem dX9_looksAt_12 : decode cX9_looksAt 12 = .ok (.iload_n 2, 1) := by decide +kernel
theorem dX9_looksAt_13 : decode cX9_looksAt 13 = .ok (.aload_n 0, 1) := by decide +kernel
theorem dX9_looksAt_14 : decode cX9_looksAt 14 = .ok (.getfield 15, 3) := by decide +kernel
theorem dX9_looksAt_17 : decode cX9_looksAt 17 = .ok (.iload_n 3, 1) := by decide +kernel
theorem dX9_looksAt_18 : decode cX9_looksAt 18 = .ok (.iaload, 1) := by decide +kernel
theorem dX9_looksAt_19 : decode cX9_looksAt 19 = .ok (.iload_n 1, 1) := by decide +kernel
theorem dX9_looksAt_20 : decode cX9_looksAt 20 = .ok (.if_icmp .ne 7, 3) := by decide +kernel
theorem dX9_looksAt_23 : decode cX9_looksAt 23 = .ok (.iconst 1, 1) := by decide +kernel
theorem dX9_looksAt_24 : decode cX9_looksAt 24 = .ok (.goto 4, 3) := by decide +kernel
theorem dX9_looksAt_27 : decode cX9_looksAt 27 = .ok (.iconst 0, 1) := by decide +kernel
theorem dX9_looksAt_28 : decode cX9_looksAt 28 = .ok (.iadd, 1) := by decide +kernel
theorem dX9_looksAt_29 : decode cX9_looksAt 29 = .ok (.istore_n 2, 1) := by decide +kernel
theorem dX9_looksAt_30 : decode cX9_looksAt 30 = .ok (.iinc 3 1, 3) := by decide +kernel
theorem dX9_looksAt_33 : decode cX9_looksAt 33 = .ok (.goto (-29), 3) := by decide +kernel
theorem dX9_looksAt_36 : decode cX9_looksAt 36 = .ok (.iload_n 2, 1) := by decide +kernel
theorem dX9_looksAt_37 : decode cX9_looksAt 37 = .ok (.ireturn, 1) := by decide +kernel
theorem dX10_init_0 : decode cX10_init 0 = .ok (.aload_n 0, 1) := by decide +kernel
theorem dX10_init_1 : decode cX10_init 1 = .ok (.invokespecial 3, 3) := by decide +kernel
theorem dX10_init_4 : decode cX10_init 4 = .ok (.aload_n 0, 1) := by decide +kernel
theorem dX10_init_5 : decode cX10_init 5 = .ok (.iconst 0, 1) := by decide +kernel
theorem dX10_init_6 : decode cX10_init 6 = .ok (.putfield 9, 3) := by decide +kernel
theorem dX10_init_9 : decode cX10_init 9 = .ok (.aload_n 0, 1) := by decide +kernel
theorem dX10_init_10 : decode cX10_init 10 = .ok (.iconst 0, 1) := by decide +kernel
theorem dX10_init_11 : decode cX10_init 11 = .ok (.putfield 15, 3) := by decide +kernel
theorem dX10_init_14 : decode cX10_init 14 = .ok (.aload_n 0, 1) := by decide +kernel
theorem dX10_init_15 : decode cX10_init 15 = .ok (.iconst 0, 1) := by decide +kernel
theorem dX10_init_16 : decode cX10_init 16 = .ok (.putfield 18, 3) := by decide +kernel
theorem dX10_init_19 : decode cX10_init 19 = .ok (.aload_n 0, 1) := by decide +kernel
theorem dX10_init_20 : decode cX10_init 20 = .ok (.sipush 648, 3) := by decide +kernel
theorem dX10_init_23 : decode cX10_init 23 = .ok (.newarray .int, 2) := by decide +kernel
theorem dX10_init_25 : decode cX10_init 25 = .ok (.putfield 21, 3) := by decide +kernel
theorem dX10_init_28 : decode cX10_init 28 = .ok (.return_, 1) := by decide +kernel
theorem dX10_make_0 : decode cX10_make 0 = .ok (.aload_n 0, 1) := by decide +kernel
theorem dX10_make_1 : decode cX10_make 1 = .ok (.iload_n 1, 1) := by decide +kernel
theorem dX10_make_2 : decode cX10_make 2 = .ok (.iconst 3, 1) := by decide +kernel
theorem dX10_make_3 : decode cX10_make 3 = .ok (.invokestatic 25, 3) := by decide +kernel
theorem dX10_make_6 : decode cX10_make 6 = .ok (.putfield 9, 3) := by decide +kernel
theorem dX10_make_9 : decode cX10_make 9 = .ok (.aload_n 0, 1) := by decide +kernel
theorem dX10_make_10 : decode cX10_make 10 = .ok (.iload_n 2, 1) := by decide +kernel
theorem dX10_make_11 : decode cX10_make 11 = .ok (.putfield 15, 3) := by decide +kernel
theorem dX10_make_14 : decode cX10_make 14 = .ok (.aload_n 0, 1) := by decide +kernel
theorem dX10_make_15 : decode cX10_make 15 = .ok (.iconst 1, 1) := by decide +kernel
theorem dX10_make_16 : decode cX10_make 16 = .ok (.putfield 18, 3) := by decide +kernel
theorem dX10_make_19 : decode cX10_make 19 = .ok (.iconst 0, 1) := by decide +kernel
theorem dX10_make_20 : decode cX10_make 20 = .ok (.istore_n 3, 1) := by decide +kernel
theorem dX10_make_21 : decode cX10_make 21 = .ok (.iload_n 3, 1) := by decide +kernel
theorem dX10_make_22 : decode cX10_make 22 = .ok (.aload_n 0, 1) := by decide +kernel
theorem dX10_make_23 : decode cX10_make 23 = .ok (.getfield 9, 3) := by decide +kernel
theorem dX10_make_26 : decode cX10_make 26 = .ok (.if_icmp .ge 28, 3) := by decide +kernel
theorem dX10_make_29 : decode cX10_make 29 = .ok (.aload_n 0, 1) := by decide +kernel
theorem dX10_make_30 : decode cX10_make 30 = .ok (.sipush 216, 3) := by decide +kernel
theorem dX10_make_33 : decode cX10_make 33 = .ok (.aload_n 0, 1) := by decide +kernel
theorem dX10_make_34 : decode cX10_make 34 = .ok (.getfield 18, 3) := by decide +kernel
theorem dX10_make_37 : decode cX10_make 37 = .ok (.aload_n 0, 1) := by decide +kernel
theorem dX10_make_38 : decode cX10_make 38 = .ok (.getfield 15, 3) := by decide +kernel
theorem dX10_make_41 : decode cX10_make 41 = .ok (.imul, 1) := by decide +kernel
theorem dX10_make_42 : decode cX10_make 42 = .ok (.invokestatic 25, 3) := by decide +kernel
theorem dX10_make_45 : decode cX10_make 45 = .ok (.putfield 18, 3) := by decide +kernel
theorem dX10_make_48 : decode cX10_make 48 = .ok (.iinc 3 1, 3) := by decide +kernel
theorem dX10_make_51 : decode cX10_make 51 = .ok (.goto (-30), 3) := by decide +kernel
theorem dX10_make_54 : decode cX10_make 54 = .ok (.iconst 0, 1) := by decide +kernel
theorem dX10_make_55 : decode cX10_make 55 = .ok (.istore_n 3, 1) := by decide +kernel
theorem dX10_make_56 : decode cX10_make 56 = .ok (.iload_n 3, 1) := by decide +kernel
theorem dX10_make_57 : decode cX10_make 57 = .ok (.aload_n 0, 1) := by decide +kernel
theorem dX10_make_58 : decode cX10_make 58 = .ok (.getfield 18, 3) := by decide +kernel
theorem dX10_make_61 : decode cX10_make 61 = .ok (.if_icmp .ge 65, 3) := by decide +kernel
theorem dX10_make_64 : decode cX10_make 64 = .ok (.aload_n 0, 1) := by decide +kernel
theorem dX10_make_65 : decode cX10_make 65 = .ok (.getfield 15, 3) := by decide +kernel
theorem dX10_make_68 : decode cX10_make 68 = .ok (.ifCond .le 58, 3) := by decide +kernel
theorem dX10_make_71 : decode cX10_make 71 = .ok (.iload_n 3, 1) := by decide +kernel
theorem dX10_make_72 : decode cX10_make 72 = .ok (.istore 4, 2) := by decide +kernel
theorem dX10_make_74 : decode cX10_make 74 = .ok (.aload_n 0, 1) := by decide +kernel
theorem dX10_make_75 : decode cX10_make 75 = .ok (.getfield 9, 3) := by decide +kernel
theorem dX10_make_78 : decode cX10_make 78 = .ok (.iconst 1, 1) := by decide +kernel
theorem dX10_make_79 : decode cX10_make 79 = .ok (.isub, 1) := by decide +kernel
theorem dX10_make_80 : decode cX10_make 80 = .ok (.istore 5, 2) := by decide +kernel
theorem dX10_make_82 : decode cX10_make 82 = .ok (.iload 5, 2) := by decide +kernel
theorem dX10_make_84 : decode cX10_make 84 = .ok (.ifCond .lt 36, 3) := by decide +kernel
theorem dX10_make_87 : decode cX10_make 87 = .ok (.aload_n 0, 1) := by decide +kernel
theorem dX10_make_88 : decode cX10_make 88 = .ok (.getfield 21, 3) := by decide +kernel
theorem dX10_make_91 : decode cX10_make 91 = .ok (.iconst 3, 1) := by decide +kernel
theorem dX10_make_92 : decode cX10_make 92 = .ok (.iload_n 3, 1) := by decide +kernel
theorem dX10_make_93 : decode cX10_make 93 = .ok (.imul, 1) := by decide +kernel
theorem dX10_make_94 : decode cX10_make 94 = .ok (.iload 5, 2) := by decide +kernel
theorem dX10_make_96 : decode cX10_make 96 = .ok (.iadd, 1) := by decide +kernel
theorem dX10_make_97 : decode cX10_make 97 = .ok (.iload 4, 2) := by decide +kernel
theorem dX10_make_99 : decode cX10_make 99 = .ok (.aload_n 0, 1) := by decide +kernel
theorem dX10_make_100 : decode cX10_make 100 = .ok (.getfield 15, 3) := by decide +kernel
theorem dX10_make_103 : decode cX10_make 103 = .ok (.irem, 1) := by decide +kernel
theorem dX10_make_104 : decode cX10_make 104 = .ok (.iastore, 1) := by decide +kernel
theorem dX10_make_105 : decode cX10_make 105 = .ok (.iload 4, 2) := by decide +kernel
theorem dX10_make_107 : decode cX10_make 107 = .ok (.aload_n 0, 1) := by decide +kernel
theorem dX10_make_108 : decode cX10_make 108 = .ok (.getfield 15, 3) := by decide +kernel
theorem dX10_make_111 : decode cX10_make 111 = .ok (.idiv, 1) := by decide +kernel
theorem dX10_make_112 : decode cX10_make 112 = .ok (.istore 4, 2) := by decide +kernel
theorem dX10_make_114 : decode cX10_make 114 = .ok (.iinc 5 (-1), 3) := by decide +kernel
theorem dX10_make_117 : decode cX10_make 117 = .ok (.goto (-35), 3) := by decide +kernel
theorem dX10_make_120 : decode cX10_make 120 = .ok (.iinc 3 1, 3) := by decide +kernel
theorem dX10_make_123 : decode cX10_make 123 = .ok (.goto (-67), 3) := by decide +kernel
theorem dX10_make_126 : decode cX10_make 126 = .ok (.return_, 1) := by decide +kernel
theorem dX10_isSetting_0 : decode cX10_isSetting 0 = .ok (.iload_n 1, 1) := by decide +kernel
theorem dX10_isSetting_1 : decode cX10_isSetting 1 = .ok (.ifCond .lt 15, 3) := by decide +kernel
theorem dX10_isSetting_4 : decode cX10_isSetting 4 = .ok (.iload_n 1, 1) := by decide +kernel
theorem dX10_isSetting_5 : decode cX10_isSetting 5 = .ok (.aload_n 0, 1) := by decide +kernel
theorem dX10_isSetting_6 : decode cX10_isSetting 6 = .ok (.getfield 18, 3) := by decide +kernel
theorem dX10_isSetting_9 : decode cX10_isSetting 9 = .ok (.if_icmp .ge 7, 3) := by decide +kernel
theorem dX10_isSetting_12 : decode cX10_isSetting 12 = .ok (.iconst 1, 1) := by decide +kernel
theorem dX10_isSetting_13 : decode cX10_isSetting 13 = .ok (.goto 4, 3) := by decide +kernel
theorem dX10_isSetting_16 : decode cX10_isSetting 16 = .ok (.iconst 0, 1) := by decide +kernel
theorem dX10_isSetting_17 : decode cX10_isSetting 17 = .ok (.ireturn, 1) := by decide +kernel
theorem dX10_isWheel_0 : decode cX10_isWheel 0 = .ok (.iload_n 1, 1) := by decide +kernel
theorem dX10_isWheel_1 : decode cX10_isWheel 1 = .ok (.ifCond .lt 15, 3) := by decide +kernel
theorem dX10_isWheel_4 : decode cX10_isWheel 4 = .ok (.iload_n 1, 1) := by decide +kernel
theorem dX10_isWheel_5 : decode cX10_isWheel 5 = .ok (.aload_n 0, 1) := by decide +kernel
theorem dX10_isWheel_6 : decode cX10_isWheel 6 = .ok (.getfield 9, 3) := by decide +kernel
theorem dX10_isWheel_9 : decode cX10_isWheel 9 = .ok (.if_icmp .ge 7, 3) := by decide +kernel
theorem dX10_isWheel_12 : decode cX10_isWheel 12 = .ok (.iconst 1, 1) := by decide +kernel
theorem dX10_isWheel_13 : decode cX10_isWheel 13 = .ok (.goto 4, 3) := by decide +kernel
theorem dX10_isWheel_16 : decode cX10_isWheel 16 = .ok (.iconst 0, 1) := by decide +kernel
theorem dX10_isWheel_17 : decode cX10_isWheel 17 = .ok (.ireturn, 1) := by decide +kernel
theorem dX10_notchOf_0 : decode cX10_notchOf 0 = .ok (.iconst 3, 1) := by decide +kernel
theorem dX10_notchOf_1 : decode cX10_notchOf 1 = .ok (.iload_n 1, 1) := by decide +kernel
theorem dX10_notchOf_2 : decode cX10_notchOf 2 = .ok (.imul, 1) := by decide +kernel
theorem dX10_notchOf_3 : decode cX10_notchOf 3 = .ok (.iload_n 2, 1) := by decide +kernel
theorem dX10_notchOf_4 : decode cX10_notchOf 4 = .ok (.iadd, 1) := by decide +kernel
theorem dX10_notchOf_5 : decode cX10_notchOf 5 = .ok (.istore_n 3, 1) := by decide +kernel
theorem dX10_notchOf_6 : decode cX10_notchOf 6 = .ok (.iload_n 3, 1) := by decide +kernel
theorem dX10_notchOf_7 : decode cX10_notchOf 7 = .ok (.ifCond .lt 21, 3) := by decide +kernel
theorem dX10_notchOf_10 : decode cX10_notchOf 10 = .ok (.iload_n 3, 1) := by decide +kernel
theorem dX10_notchOf_11 : decode cX10_notchOf 11 = .ok (.aload_n 0, 1) := by decide +kernel
theorem dX10_notchOf_12 : decode cX10_notchOf 12 = .ok (.getfield 21, 3) := by decide +kernel
theorem dX10_notchOf_15 : decode cX10_notchOf 15 = .ok (.arraylength, 1) := by decide +kernel
theorem dX10_notchOf_16 : decode cX10_notchOf 16 = .ok (.if_icmp .ge 12, 3) := by decide +kernel
theorem dX10_notchOf_19 : decode cX10_notchOf 19 = .ok (.aload_n 0, 1) := by decide +kernel
theorem dX10_notchOf_20 : decode cX10_notchOf 20 = .ok (.getfield 21, 3) := by decide +kernel
theorem dX10_notchOf_23 : decode cX10_notchOf 23 = .ok (.iload_n 3, 1) := by decide +kernel
theorem dX10_notchOf_24 : decode cX10_notchOf 24 = .ok (.iaload, 1) := by decide +kernel
theorem dX10_notchOf_25 : decode cX10_notchOf 25 = .ok (.goto 4, 3) := by decide +kernel
theorem dX10_notchOf_28 : decode cX10_notchOf 28 = .ok (.iconst 0, 1) := by decide +kernel
theorem dX10_notchOf_29 : decode cX10_notchOf 29 = .ok (.ireturn, 1) := by decide +kernel
theorem dX10_turnBetween_0 : decode cX10_turnBetween 0 = .ok (.aload_n 0, 1) := by decide +kernel
theorem dX10_turnBetween_1 : decode cX10_turnBetween 1 = .ok (.iload_n 1, 1) := by decide +kernel
theorem dX10_turnBetween_2 : decode cX10_turnBetween 2 = .ok (.invokevirtual 31, 3) := by decide +kernel
theorem dX10_turnBetween_5 : decode cX10_turnBetween 5 = .ok (.ifCond .eq 11, 3) := by decide +kernel
theorem dX10_turnBetween_8 : decode cX10_turnBetween 8 = .ok (.aload_n 0, 1) := by decide +kernel
theorem dX10_turnBetween_9 : decode cX10_turnBetween 9 = .ok (.iload_n 2, 1) := by decide +kernel
theorem dX10_turnBetween_10 : decode cX10_turnBetween 10 = .ok (.invokevirtual 31, 3) := by decide +kernel
theorem dX10_turnBetween_13 : decode cX10_turnBetween 13 = .ok (.ifCond .ne 5, 3) := by decide +kernel
theorem dX10_turnBetween_16 : decode cX10_turnBetween 16 = .ok (.iconst 0, 1) := by decide +kernel
theorem dX10_turnBetween_17 : decode cX10_turnBetween 17 = .ok (.ireturn, 1) := by decide +kernel
theorem dX10_turnBetween_18 : decode cX10_turnBetween 18 = .ok (.iconst 0, 1) := by decide +kernel
theorem dX10_turnBetween_19 : decode cX10_turnBetween 19 = .ok (.istore_n 3, 1) := by decide +kernel
theorem dX10_turnBetween_20 : decode cX10_turnBetween 20 = .ok (.iconst 0, 1) := by decide +kernel
theorem dX10_turnBetween_21 : decode cX10_turnBetween 21 = .ok (.istore 4, 2) := by decide +kernel
theorem dX10_turnBetween_23 : decode cX10_turnBetween 23 = .ok (.iload 4, 2) := by decide +kernel
theorem dX10_turnBetween_25 : decode cX10_turnBetween 25 = .ok (.aload_n 0, 1) := by decide +kernel
theorem dX10_turnBetween_26 : decode cX10_turnBetween 26 = .ok (.getfield 9, 3) := by decide +kernel
theorem dX10_turnBetween_29 : decode cX10_turnBetween 29 = .ok (.if_icmp .ge 59, 3) := by decide +kernel
theorem dX10_turnBetween_32 : decode cX10_turnBetween 32 = .ok (.aload_n 0, 1) := by decide +kernel
theorem dX10_turnBetween_33 : decode cX10_turnBetween 33 = .ok (.getfield 21, 3) := by decide +kernel
theorem dX10_turnBetween_36 : decode cX10_turnBetween 36 = .ok (.iconst 3, 1) := by decide +kernel
theorem dX10_turnBetween_37 : decode cX10_turnBetween 37 = .ok (.iload_n 2, 1) := by decide +kernel
theorem dX10_turnBetween_38 : decode cX10_turnBetween 38 = .ok (.imul, 1) := by decide +kernel
theorem dX10_turnBetween_39 : decode cX10_turnBetween 39 = .ok (.iload 4, 2) := by decide +kernel
theorem dX10_turnBetween_41 : decode cX10_turnBetween 41 = .ok (.iadd, 1) := by decide +kernel
theorem dX10_turnBetween_42 : decode cX10_turnBetween 42 = .ok (.iaload, 1) := by decide +kernel
theorem dX10_turnBetween_43 : decode cX10_turnBetween 43 = .ok (.aload_n 0, 1) := by decide +kernel
theorem dX10_turnBetween_44 : decode cX10_turnBetween 44 = .ok (.getfield 21, 3) := by decide +kernel
theorem dX10_turnBetween_47 : decode cX10_turnBetween 47 = .ok (.iconst 3, 1) := by decide +kernel
theorem dX10_turnBetween_48 : decode cX10_turnBetween 48 = .ok (.iload_n 1, 1) := by decide +kernel
theorem dX10_turnBetween_49 : decode cX10_turnBetween 49 = .ok (.imul, 1) := by decide +kernel
theorem dX10_turnBetween_50 : decode cX10_turnBetween 50 = .ok (.iload 4, 2) := by decide +kernel
theorem dX10_turnBetween_52 : decode cX10_turnBetween 52 = .ok (.iadd, 1) := by decide +kernel
theorem dX10_turnBetween_53 : decode cX10_turnBetween 53 = .ok (.iaload, 1) := by decide +kernel
theorem dX10_turnBetween_54 : decode cX10_turnBetween 54 = .ok (.isub, 1) := by decide +kernel
theorem dX10_turnBetween_55 : decode cX10_turnBetween 55 = .ok (.istore 5, 2) := by decide +kernel
theorem dX10_turnBetween_57 : decode cX10_turnBetween 57 = .ok (.iload_n 3, 1) := by decide +kernel
theorem dX10_turnBetween_58 : decode cX10_turnBetween 58 = .ok (.aload_n 0, 1) := by decide +kernel
theorem dX10_turnBetween_59 : decode cX10_turnBetween 59 = .ok (.getfield 15, 3) := by decide +kernel
theorem dX10_turnBetween_62 : decode cX10_turnBetween 62 = .ok (.imul, 1) := by decide +kernel
theorem dX10_turnBetween_63 : decode cX10_turnBetween 63 = .ok (.iload 5, 2) := by decide +kernel
theorem dX10_turnBetween_65 : decode cX10_turnBetween 65 = .ok (.ifCond .ge 13, 3) := by decide +kernel
theorem dX10_turnBetween_68 : decode cX10_turnBetween 68 = .ok (.iload 5, 2) := by decide +kernel
theorem dX10_turnBetween_70 : decode cX10_turnBetween 70 = .ok (.aload_n 0, 1) := by decide +kernel
theorem dX10_turnBetween_71 : decode cX10_turnBetween 71 = .ok (.getfield 15, 3) := by decide +kernel
theorem dX10_turnBetween_74 : decode cX10_turnBetween 74 = .ok (.iadd, 1) := by decide +kernel
theorem dX10_turnBetween_75 : decode cX10_turnBetween 75 = .ok (.goto 5, 3) := by decide +kernel
theorem dX10_turnBetween_78 : decode cX10_turnBetween 78 = .ok (.iload 5, 2) := by decide +kernel
theorem dX10_turnBetween_80 : decode cX10_turnBetween 80 = .ok (.iadd, 1) := by decide +kernel
theorem dX10_turnBetween_81 : decode cX10_turnBetween 81 = .ok (.istore_n 3, 1) := by decide +kernel
theorem dX10_turnBetween_82 : decode cX10_turnBetween 82 = .ok (.iinc 4 1, 3) := by decide +kernel
theorem dX10_turnBetween_85 : decode cX10_turnBetween 85 = .ok (.goto (-62), 3) := by decide +kernel
theorem dX10_turnBetween_88 : decode cX10_turnBetween 88 = .ok (.iload_n 3, 1) := by decide +kernel
theorem dX10_turnBetween_89 : decode cX10_turnBetween 89 = .ok (.ireturn, 1) := by decide +kernel
theorem dX10_turned_0 : decode cX10_turned 0 = .ok (.aload_n 0, 1) := by decide +kernel
theorem dX10_turned_1 : decode cX10_turned 1 = .ok (.iload_n 1, 1) := by decide +kernel
theorem dX10_turned_2 : decode cX10_turned 2 = .ok (.invokevirtual 31, 3) := by decide +kernel
theorem dX10_turned_5 : decode cX10_turned 5 = .ok (.ifCond .eq 11, 3) := by decide +kernel
theorem dX10_turned_8 : decode cX10_turned 8 = .ok (.aload_n 0, 1) := by decide +kernel
theorem dX10_turned_9 : decode cX10_turned 9 = .ok (.iload_n 2, 1) := by decide +kernel
theorem dX10_turned_10 : decode cX10_turned 10 = .ok (.invokevirtual 31, 3) := by decide +kernel
theorem dX10_turned_13 : decode cX10_turned 13 = .ok (.ifCond .ne 5, 3) := by decide +kernel
theorem dX10_turned_16 : decode cX10_turned 16 = .ok (.iconst 0, 1) := by decide +kernel
theorem dX10_turned_17 : decode cX10_turned 17 = .ok (.ireturn, 1) := by decide +kernel
theorem dX10_turned_18 : decode cX10_turned 18 = .ok (.iconst 0, 1) := by decide +kernel
theorem dX10_turned_19 : decode cX10_turned 19 = .ok (.istore_n 3, 1) := by decide +kernel
theorem dX10_turned_20 : decode cX10_turned 20 = .ok (.iconst 0, 1) := by decide +kernel
theorem dX10_turned_21 : decode cX10_turned 21 = .ok (.istore 4, 2) := by decide +kernel
theorem dX10_turned_23 : decode cX10_turned 23 = .ok (.iload 4, 2) := by decide +kernel
theorem dX10_turned_25 : decode cX10_turned 25 = .ok (.aload_n 0, 1) := by decide +kernel
theorem dX10_turned_26 : decode cX10_turned 26 = .ok (.getfield 9, 3) := by decide +kernel
theorem dX10_turned_29 : decode cX10_turned 29 = .ok (.if_icmp .ge 63, 3) := by decide +kernel
theorem dX10_turned_32 : decode cX10_turned 32 = .ok (.aload_n 0, 1) := by decide +kernel
theorem dX10_turned_33 : decode cX10_turned 33 = .ok (.getfield 21, 3) := by decide +kernel
theorem dX10_turned_36 : decode cX10_turned 36 = .ok (.iconst 3, 1) := by decide +kernel
theorem dX10_turned_37 : decode cX10_turned 37 = .ok (.iload_n 1, 1) := by decide +kernel
theorem dX10_turned_38 : decode cX10_turned 38 = .ok (.imul, 1) := by decide +kernel
theorem dX10_turned_39 : decode cX10_turned 39 = .ok (.iload 4, 2) := by decide +kernel
theorem dX10_turned_41 : decode cX10_turned 41 = .ok (.iadd, 1) := by decide +kernel
theorem dX10_turned_42 : decode cX10_turned 42 = .ok (.iaload, 1) := by decide +kernel
theorem dX10_turned_43 : decode cX10_turned 43 = .ok (.aload_n 0, 1) := by decide +kernel
theorem dX10_turned_44 : decode cX10_turned 44 = .ok (.getfield 21, 3) := by decide +kernel
theorem dX10_turned_47 : decode cX10_turned 47 = .ok (.iconst 3, 1) := by decide +kernel
theorem dX10_turned_48 : decode cX10_turned 48 = .ok (.iload_n 2, 1) := by decide +kernel
theorem dX10_turned_49 : decode cX10_turned 49 = .ok (.imul, 1) := by decide +kernel
theorem dX10_turned_50 : decode cX10_turned 50 = .ok (.iload 4, 2) := by decide +kernel
theorem dX10_turned_52 : decode cX10_turned 52 = .ok (.iadd, 1) := by decide +kernel
theorem dX10_turned_53 : decode cX10_turned 53 = .ok (.iaload, 1) := by decide +kernel
theorem dX10_turned_54 : decode cX10_turned 54 = .ok (.iadd, 1) := by decide +kernel
theorem dX10_turned_55 : decode cX10_turned 55 = .ok (.istore 5, 2) := by decide +kernel
theorem dX10_turned_57 : decode cX10_turned 57 = .ok (.iload_n 3, 1) := by decide +kernel
theorem dX10_turned_58 : decode cX10_turned 58 = .ok (.aload_n 0, 1) := by decide +kernel
theorem dX10_turned_59 : decode cX10_turned 59 = .ok (.getfield 15, 3) := by decide +kernel
theorem dX10_turned_62 : decode cX10_turned 62 = .ok (.imul, 1) := by decide +kernel
theorem dX10_turned_63 : decode cX10_turned 63 = .ok (.iload 5, 2) := by decide +kernel
theorem dX10_turned_65 : decode cX10_turned 65 = .ok (.aload_n 0, 1) := by decide +kernel
theorem dX10_turned_66 : decode cX10_turned 66 = .ok (.getfield 15, 3) := by decide +kernel
theorem dX10_turned_69 : decode cX10_turned 69 = .ok (.if_icmp .ge 8, 3) := by decide +kernel
theorem dX10_turned_72 : decode cX10_turned 72 = .ok (.iload 5, 2) := by decide +kernel
theorem dX10_turned_74 : decode cX10_turned 74 = .ok (.goto 10, 3) := by decide +kernel
theorem dX10_turned_77 : decode cX10_turned 77 = .ok (.iload 5, 2) := by decide +kernel
theorem dX10_turned_79 : decode cX10_turned 79 = .ok (.aload_n 0, 1) := by decide +kernel
theorem dX10_turned_80 : decode cX10_turned 80 = .ok (.getfield 15, 3) := by decide +kernel
theorem dX10_turned_83 : decode cX10_turned 83 = .ok (.isub, 1) := by decide +kernel
theorem dX10_turned_84 : decode cX10_turned 84 = .ok (.iadd, 1) := by decide +kernel
theorem dX10_turned_85 : decode cX10_turned 85 = .ok (.istore_n 3, 1) := by decide +kernel
theorem dX10_turned_86 : decode cX10_turned 86 = .ok (.iinc 4 1, 3) := by decide +kernel
theorem dX10_turned_89 : decode cX10_turned 89 = .ok (.goto (-66), 3) := by decide +kernel
theorem dX10_turned_92 : decode cX10_turned 92 = .ok (.iload_n 3, 1) := by decide +kernel
theorem dX10_turned_93 : decode cX10_turned 93 = .ok (.ireturn, 1) := by decide +kernel
theorem dX10_wheelsIn_0 : decode cX10_wheelsIn 0 = .ok (.iconst 0, 1) := by decide +kernel
theorem dX10_wheelsIn_1 : decode cX10_wheelsIn 1 = .ok (.istore_n 2, 1) := by decide +kernel
theorem dX10_wheelsIn_2 : decode cX10_wheelsIn 2 = .ok (.iconst 0, 1) := by decide +kernel
theorem dX10_wheelsIn_3 : decode cX10_wheelsIn 3 = .ok (.istore_n 3, 1) := by decide +kernel
theorem dX10_wheelsIn_4 : decode cX10_wheelsIn 4 = .ok (.iload_n 3, 1) := by decide +kernel
theorem dX10_wheelsIn_5 : decode cX10_wheelsIn 5 = .ok (.aload_n 0, 1) := by decide +kernel
theorem dX10_wheelsIn_6 : decode cX10_wheelsIn 6 = .ok (.getfield 9, 3) := by decide +kernel
theorem dX10_wheelsIn_9 : decode cX10_wheelsIn 9 = .ok (.if_icmp .ge 26, 3) := by decide +kernel
theorem dX10_wheelsIn_12 : decode cX10_wheelsIn 12 = .ok (.iload_n 2, 1) := by decide +kernel
theorem dX10_wheelsIn_13 : decode cX10_wheelsIn 13 = .ok (.aload_n 0, 1) := by decide +kernel
theorem dX10_wheelsIn_14 : decode cX10_wheelsIn 14 = .ok (.iload_n 1, 1) := by decide +kernel
theorem dX10_wheelsIn_15 : decode cX10_wheelsIn 15 = .ok (.iload_n 3, 1) := by decide +kernel
theorem dX10_wheelsIn_16 : decode cX10_wheelsIn 16 = .ok (.invokevirtual 35, 3) := by decide +kernel
theorem dX10_wheelsIn_19 : decode cX10_wheelsIn 19 = .ok (.ifCond .ne 7, 3) := by decide +kernel
theorem dX10_wheelsIn_22 : decode cX10_wheelsIn 22 = .ok (.iconst 0, 1) := by decide +kernel
theorem dX10_wheelsIn_23 : decode cX10_wheelsIn 23 = .ok (.goto 4, 3) := by decide +kernel
theorem dX10_wheelsIn_26 : decode cX10_wheelsIn 26 = .ok (.iconst 1, 1) := by decide +kernel
theorem dX10_wheelsIn_27 : decode cX10_wheelsIn 27 = .ok (.iadd, 1) := by decide +kernel
theorem dX10_wheelsIn_28 : decode cX10_wheelsIn 28 = .ok (.istore_n 2, 1) := by decide +kernel
theorem dX10_wheelsIn_29 : decode cX10_wheelsIn 29 = .ok (.iinc 3 1, 3) := by decide +kernel
theorem dX10_wheelsIn_32 : decode cX10_wheelsIn 32 = .ok (.goto (-28), 3) := by decide +kernel
theorem dX10_wheelsIn_35 : decode cX10_wheelsIn 35 = .ok (.iload_n 2, 1) := by decide +kernel
theorem dX10_wheelsIn_36 : decode cX10_wheelsIn 36 = .ok (.ireturn, 1) := by decide +kernel
theorem dX10_fewestNotchesIn_0 : decode cX10_fewestNotchesIn 0 = .ok (.iconst 0, 1) := by decide +kernel
theorem dX10_fewestNotchesIn_1 : decode cX10_fewestNotchesIn 1 = .ok (.istore_n 2, 1) := by decide +kernel
theorem dX10_fewestNotchesIn_2 : decode cX10_fewestNotchesIn 2 = .ok (.iconst 0, 1) := by decide +kernel
theorem dX10_fewestNotchesIn_3 : decode cX10_fewestNotchesIn 3 = .ok (.istore_n 3, 1) := by decide +kernel
theorem dX10_fewestNotchesIn_4 : decode cX10_fewestNotchesIn 4 = .ok (.iload_n 3, 1) := by decide +kernel
theorem dX10_fewestNotchesIn_5 : decode cX10_fewestNotchesIn 5 = .ok (.aload_n 0, 1) := by decide +kernel
theorem dX10_fewestNotchesIn_6 : decode cX10_fewestNotchesIn 6 = .ok (.getfield 9, 3) := by decide +kernel
theorem dX10_fewestNotchesIn_9 : decode cX10_fewestNotchesIn 9 = .ok (.if_icmp .ge 32, 3) := by decide +kernel
theorem dX10_fewestNotchesIn_12 : decode cX10_fewestNotchesIn 12 = .ok (.aload_n 0, 1) := by decide +kernel
theorem dX10_fewestNotchesIn_13 : decode cX10_fewestNotchesIn 13 = .ok (.iload_n 1, 1) := by decide +kernel
theorem dX10_fewestNotchesIn_14 : decode cX10_fewestNotchesIn 14 = .ok (.iload_n 3, 1) := by decide +kernel
theorem dX10_fewestNotchesIn_15 : decode cX10_fewestNotchesIn 15 = .ok (.invokevirtual 35, 3) := by decide +kernel
theorem dX10_fewestNotchesIn_18 : decode cX10_fewestNotchesIn 18 = .ok (.istore 4, 2) := by decide +kernel
theorem dX10_fewestNotchesIn_20 : decode cX10_fewestNotchesIn 20 = .ok (.iload_n 2, 1) := by decide +kernel
theorem dX10_fewestNotchesIn_21 : decode cX10_fewestNotchesIn 21 = .ok (.iload 4, 2) := by decide +kernel
theorem dX10_fewestNotchesIn_23 : decode cX10_fewestNotchesIn 23 = .ok (.aload_n 0, 1) := by decide +kernel
theorem dX10_fewestNotchesIn_24 : decode cX10_fewestNotchesIn 24 = .ok (.getfield 15, 3) := by decide +kernel
theorem dX10_fewestNotchesIn_27 : decode cX10_fewestNotchesIn 27 = .ok (.iload 4, 2) := by decide +kernel
theorem dX10_fewestNotchesIn_29 : decode cX10_fewestNotchesIn 29 = .ok (.isub, 1) := by decide +kernel
theorem dX10_fewestNotchesIn_30 : decode cX10_fewestNotchesIn 30 = .ok (.invokestatic 25, 3) := by decide +kernel
theorem dX10_fewestNotchesIn_33 : decode cX10_fewestNotchesIn 33 = .ok (.iadd, 1) := by decide +kernel
theorem dX10_fewestNotchesIn_34 : decode cX10_fewestNotchesIn 34 = .ok (.istore_n 2, 1) := by decide +kernel
theorem dX10_fewestNotchesIn_35 : decode cX10_fewestNotchesIn 35 = .ok (.iinc 3 1, 3) := by decide +kernel
theorem dX10_fewestNotchesIn_38 : decode cX10_fewestNotchesIn 38 = .ok (.goto (-34), 3) := by decide +kernel
theorem dX10_fewestNotchesIn_41 : decode cX10_fewestNotchesIn 41 = .ok (.iload_n 2, 1) := by decide +kernel
theorem dX10_fewestNotchesIn_42 : decode cX10_fewestNotchesIn 42 = .ok (.ireturn, 1) := by decide +kernel
theorem dX10_leavesAhead_0 : decode cX10_leavesAhead 0 = .ok (.iconst 0, 1) := by decide +kernel
theorem dX10_leavesAhead_1 : decode cX10_leavesAhead 1 = .ok (.istore_n 3, 1) := by decide +kernel
theorem dX10_leavesAhead_2 : decode cX10_leavesAhead 2 = .ok (.iload_n 3, 1) := by decide +kernel
theorem dX10_leavesAhead_3 : decode cX10_leavesAhead 3 = .ok (.iload_n 2, 1) := by decide +kernel
theorem dX10_leavesAhead_4 : decode cX10_leavesAhead 4 = .ok (.if_icmp .ge 20, 3) := by decide +kernel
theorem dX10_leavesAhead_7 : decode cX10_leavesAhead 7 = .ok (.aload_n 0, 1) := by decide +kernel
theorem dX10_leavesAhead_8 : decode cX10_leavesAhead 8 = .ok (.iload_n 1, 1) := by decide +kernel
theorem dX10_leavesAhead_9 : decode cX10_leavesAhead 9 = .ok (.iload_n 3, 1) := by decide +kernel
theorem dX10_leavesAhead_10 : decode cX10_leavesAhead 10 = .ok (.invokevirtual 35, 3) := by decide +kernel
theorem dX10_leavesAhead_13 : decode cX10_leavesAhead 13 = .ok (.ifCond .eq 5, 3) := by decide +kernel
theorem dX10_leavesAhead_16 : decode cX10_leavesAhead 16 = .ok (.iconst 0, 1) := by decide +kernel
theorem dX10_leavesAhead_17 : decode cX10_leavesAhead 17 = .ok (.ireturn, 1) := by decide +kernel
theorem dX10_leavesAhead_18 : decode cX10_leavesAhead 18 = .ok (.iinc 3 1, 3) := by decide +kernel
theorem dX10_leavesAhead_21 : decode cX10_leavesAhead 21 = .ok (.goto (-19), 3) := by decide +kernel
theorem dX10_leavesAhead_24 : decode cX10_leavesAhead 24 = .ok (.iconst 1, 1) := by decide +kernel
theorem dX10_leavesAhead_25 : decode cX10_leavesAhead 25 = .ok (.ireturn, 1) := by decide +kernel
theorem dJ9_max_7cf53_0 : decode cJ9_max_7cf53 0 = .ok (.iload_n 0, 1) := by decide +kernel
theorem dJ9_max_7cf53_1 : decode cJ9_max_7cf53 1 = .ok (.iload_n 1, 1) := by decide +kernel
theorem dJ9_max_7cf53_2 : decode cJ9_max_7cf53 2 = .ok (.if_icmp .lt 7, 3) := by decide +kernel
theorem dJ9_max_7cf53_5 : decode cJ9_max_7cf53 5 = .ok (.iload_n 0, 1) := by decide +kernel
theorem dJ9_max_7cf53_6 : decode cJ9_max_7cf53 6 = .ok (.goto 4, 3) := by decide +kernel
theorem dJ9_max_7cf53_9 : decode cJ9_max_7cf53 9 = .ok (.iload_n 1, 1) := by decide +kernel
theorem dJ9_max_7cf53_10 : decode cJ9_max_7cf53 10 = .ok (.ireturn, 1) := by decide +kernel
theorem dJ9_max_f86c9_0 : decode cJ9_max_f86c9 0 = .ok (.lload_n 0, 1) := by decide +kernel
theorem dJ9_max_f86c9_1 : decode cJ9_max_f86c9 1 = .ok (.lload_n 2, 1) := by decide +kernel
theorem dJ9_max_f86c9_2 : decode cJ9_max_f86c9 2 = .ok (.lcmp, 1) := by decide +kernel
theorem dJ9_max_f86c9_3 : decode cJ9_max_f86c9 3 = .ok (.ifCond .lt 7, 3) := by decide +kernel
theorem dJ9_max_f86c9_6 : decode cJ9_max_f86c9 6 = .ok (.lload_n 0, 1) := by decide +kernel
theorem dJ9_max_f86c9_7 : decode cJ9_max_f86c9 7 = .ok (.goto 4, 3) := by decide +kernel
theorem dJ9_max_f86c9_10 : decode cJ9_max_f86c9 10 = .ok (.lload_n 2, 1) := by decide +kernel
theorem dJ9_max_f86c9_11 : decode cJ9_max_f86c9 11 = .ok (.lreturn, 1) := by decide +kernel
theorem dJ9_min_7cf53_0 : decode cJ9_min_7cf53 0 = .ok (.iload_n 0, 1) := by decide +kernel
theorem dJ9_min_7cf53_1 : decode cJ9_min_7cf53 1 = .ok (.iload_n 1, 1) := by decide +kernel
theorem dJ9_min_7cf53_2 : decode cJ9_min_7cf53 2 = .ok (.if_icmp .gt 7, 3) := by decide +kernel
theorem dJ9_min_7cf53_5 : decode cJ9_min_7cf53 5 = .ok (.iload_n 0, 1) := by decide +kernel
theorem dJ9_min_7cf53_6 : decode cJ9_min_7cf53 6 = .ok (.goto 4, 3) := by decide +kernel
theorem dJ9_min_7cf53_9 : decode cJ9_min_7cf53 9 = .ok (.iload_n 1, 1) := by decide +kernel
theorem dJ9_min_7cf53_10 : decode cJ9_min_7cf53 10 = .ok (.ireturn, 1) := by decide +kernel
