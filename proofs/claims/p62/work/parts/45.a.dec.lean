theorem dX11_feed_0 : decode cX11_feed 0 = .ok (.aload_n 0, 1) := by decide +kernel
theorem dX11_feed_1 : decode cX11_feed 1 = .ok (.getfield 10, 3) := by decide +kernel
theorem dX11_feed_4 : decode cX11_feed 4 = .ok (.getfield 83, 3) := by decide +kernel
theorem dX11_feed_7 : decode cX11_feed 7 = .ok (.bipush 20, 2) := by decide +kernel
theorem dX11_feed_9 : decode cX11_feed 9 = .ok (.iadd, 1) := by decide +kernel
theorem dX11_feed_10 : decode cX11_feed 10 = .ok (.sipush 1600, 3) := by decide +kernel
theorem dX11_feed_13 : decode cX11_feed 13 = .ok (.if_icmp .le 5, 3) := by decide +kernel
theorem dX11_feed_16 : decode cX11_feed 16 = .ok (.iconst (-1), 1) := by decide +kernel
theorem dX11_feed_17 : decode cX11_feed 17 = .ok (.ireturn, 1) := by decide +kernel
theorem dX11_feed_18 : decode cX11_feed 18 = .ok (.aload_n 0, 1) := by decide +kernel
theorem dX11_feed_19 : decode cX11_feed 19 = .ok (.getfield 10, 3) := by decide +kernel
theorem dX11_feed_22 : decode cX11_feed 22 = .ok (.iload_n 1, 1) := by decide +kernel
theorem dX11_feed_23 : decode cX11_feed 23 = .ok (.invokevirtual 87, 3) := by decide +kernel
theorem dX11_feed_26 : decode cX11_feed 26 = .ok (.aload_n 0, 1) := by decide +kernel
theorem dX11_feed_27 : decode cX11_feed 27 = .ok (.getfield 10, 3) := by decide +kernel
theorem dX11_feed_30 : decode cX11_feed 30 = .ok (.iload_n 2, 1) := by decide +kernel
theorem dX11_feed_31 : decode cX11_feed 31 = .ok (.invokevirtual 87, 3) := by decide +kernel
theorem dX11_feed_34 : decode cX11_feed 34 = .ok (.aload_n 0, 1) := by decide +kernel
theorem dX11_feed_35 : decode cX11_feed 35 = .ok (.getfield 10, 3) := by decide +kernel
theorem dX11_feed_38 : decode cX11_feed 38 = .ok (.iload_n 3, 1) := by decide +kernel
theorem dX11_feed_39 : decode cX11_feed 39 = .ok (.invokevirtual 87, 3) := by decide +kernel
theorem dX11_feed_42 : decode cX11_feed 42 = .ok (.aload_n 0, 1) := by decide +kernel
theorem dX11_feed_43 : decode cX11_feed 43 = .ok (.getfield 10, 3) := by decide +kernel
theorem dX11_feed_46 : decode cX11_feed 46 = .ok (.iload 4, 2) := by decide +kernel
theorem dX11_feed_48 : decode cX11_feed 48 = .ok (.invokevirtual 87, 3) := by decide +kernel
theorem dX11_feed_51 : decode cX11_feed 51 = .ok (.aload_n 0, 1) := by decide +kernel
theorem dX11_feed_52 : decode cX11_feed 52 = .ok (.getfield 10, 3) := by decide +kernel
theorem dX11_feed_55 : decode cX11_feed 55 = .ok (.iload 5, 2) := by decide +kernel
theorem dX11_feed_57 : decode cX11_feed 57 = .ok (.invokevirtual 87, 3) := by decide +kernel
theorem dX11_feed_60 : decode cX11_feed 60 = .ok (.aload_n 0, 1) := by decide +kernel
theorem dX11_feed_61 : decode cX11_feed 61 = .ok (.getfield 10, 3) := by decide +kernel
theorem dX11_feed_64 : decode cX11_feed 64 = .ok (.getfield 83, 3) := by decide +kernel
theorem dX11_feed_67 : decode cX11_feed 67 = .ok (.ireturn, 1) := by decide +kernel
theorem dX11_end_0 : decode cX11_end 0 = .ok (.iload_n 1, 1) := by decide +kernel
theorem dX11_end_1 : decode cX11_end 1 = .ok (.ifCond .lt 14, 3) := by decide +kernel
theorem dX11_end_4 : decode cX11_end 4 = .ok (.iload_n 1, 1) := by decide +kernel
theorem dX11_end_5 : decode cX11_end 5 = .ok (.aload_n 0, 1) := by decide +kernel
theorem dX11_end_6 : decode cX11_end 6 = .ok (.getfield 10, 3) := by decide +kernel
theorem dX11_end_9 : decode cX11_end 9 = .ok (.getfield 83, 3) := by decide +kernel
theorem dX11_end_12 : decode cX11_end 12 = .ok (.if_icmp .le 5, 3) := by decide +kernel
theorem dX11_end_15 : decode cX11_end 15 = .ok (.iconst (-1), 1) := by decide +kernel
theorem dX11_end_16 : decode cX11_end 16 = .ok (.ireturn, 1) := by decide +kernel
theorem dX11_end_17 : decode cX11_end 17 = .ok (.aload_n 0, 1) := by decide +kernel
theorem dX11_end_18 : decode cX11_end 18 = .ok (.getfield 10, 3) := by decide +kernel
theorem dX11_end_21 : decode cX11_end 21 = .ok (.iload_n 1, 1) := by decide +kernel
theorem dX11_end_22 : decode cX11_end 22 = .ok (.putfield 83, 3) := by decide +kernel
theorem dX11_end_25 : decode cX11_end 25 = .ok (.iload_n 1, 1) := by decide +kernel
theorem dX11_end_26 : decode cX11_end 26 = .ok (.ireturn, 1) := by decide +kernel
theorem dX11_land_0 : decode cX11_land 0 = .ok (.aload_n 0, 1) := by decide +kernel
theorem dX11_land_1 : decode cX11_land 1 = .ok (.getfield 10, 3) := by decide +kernel
theorem dX11_land_4 : decode cX11_land 4 = .ok (.invokevirtual 91, 3) := by decide +kernel
theorem dX11_land_7 : decode cX11_land 7 = .ok (.ifCond .ne 6, 3) := by decide +kernel
theorem dX11_land_10 : decode cX11_land 10 = .ok (.bipush (-4), 2) := by decide +kernel
theorem dX11_land_12 : decode cX11_land 12 = .ok (.ireturn, 1) := by decide +kernel
theorem dX11_land_13 : decode cX11_land 13 = .ok (.aload_n 0, 1) := by decide +kernel
theorem dX11_land_14 : decode cX11_land 14 = .ok (.getfield 19, 3) := by decide +kernel
theorem dX11_land_17 : decode cX11_land 17 = .ok (.aload_n 0, 1) := by decide +kernel
theorem dX11_land_18 : decode cX11_land 18 = .ok (.getfield 10, 3) := by decide +kernel
theorem dX11_land_21 : decode cX11_land 21 = .ok (.getfield 95, 3) := by decide +kernel
theorem dX11_land_24 : decode cX11_land 24 = .ok (.invokevirtual 98, 3) := by decide +kernel
theorem dX11_land_27 : decode cX11_land 27 = .ok (.aload_n 0, 1) := by decide +kernel
theorem dX11_land_28 : decode cX11_land 28 = .ok (.getfield 30, 3) := by decide +kernel
theorem dX11_land_31 : decode cX11_land 31 = .ok (.iconst 1, 1) := by decide +kernel
theorem dX11_land_32 : decode cX11_land 32 = .ok (.putfield 102, 3) := by decide +kernel
theorem dX11_land_35 : decode cX11_land 35 = .ok (.aload_n 0, 1) := by decide +kernel
theorem dX11_land_36 : decode cX11_land 36 = .ok (.getfield 10, 3) := by decide +kernel
theorem dX11_land_39 : decode cX11_land 39 = .ok (.iconst 0, 1) := by decide +kernel
theorem dX11_land_40 : decode cX11_land 40 = .ok (.putfield 83, 3) := by decide +kernel
theorem dX11_land_43 : decode cX11_land 43 = .ok (.aload_n 0, 1) := by decide +kernel
theorem dX11_land_44 : decode cX11_land 44 = .ok (.getfield 19, 3) := by decide +kernel
theorem dX11_land_47 : decode cX11_land 47 = .ok (.getfield 106, 3) := by decide +kernel
theorem dX11_land_50 : decode cX11_land 50 = .ok (.ireturn, 1) := by decide +kernel
theorem dX11_fault_0 : decode cX11_fault 0 = .ok (.iload_n 1, 1) := by decide +kernel
theorem dX11_fault_1 : decode cX11_fault 1 = .ok (.ifCond .ne 11, 3) := by decide +kernel
theorem dX11_fault_4 : decode cX11_fault 4 = .ok (.aload_n 0, 1) := by decide +kernel
theorem dX11_fault_5 : decode cX11_fault 5 = .ok (.getfield 10, 3) := by decide +kernel
theorem dX11_fault_8 : decode cX11_fault 8 = .ok (.getfield 109, 3) := by decide +kernel
theorem dX11_fault_11 : decode cX11_fault 11 = .ok (.ireturn, 1) := by decide +kernel
theorem dX11_fault_12 : decode cX11_fault 12 = .ok (.iload_n 1, 1) := by decide +kernel
theorem dX11_fault_13 : decode cX11_fault 13 = .ok (.iconst 1, 1) := by decide +kernel
theorem dX11_fault_14 : decode cX11_fault 14 = .ok (.if_icmp .ne 13, 3) := by decide +kernel
theorem dX11_fault_17 : decode cX11_fault 17 = .ok (.aload_n 0, 1) := by decide +kernel
theorem dX11_fault_18 : decode cX11_fault 18 = .ok (.getfield 10, 3) := by decide +kernel
theorem dX11_fault_21 : decode cX11_fault 21 = .ok (.getfield 112, 3) := by decide +kernel
theorem dX11_fault_24 : decode cX11_fault 24 = .ok (.goto 4, 3) := by decide +kernel
theorem dX11_fault_27 : decode cX11_fault 27 = .ok (.iconst (-1), 1) := by decide +kernel
theorem dX11_fault_28 : decode cX11_fault 28 = .ok (.ireturn, 1) := by decide +kernel
theorem dX11_readSeen_0 : decode cX11_readSeen 0 = .ok (.iload_n 1, 1) := by decide +kernel
theorem dX11_readSeen_1 : decode cX11_readSeen 1 = .ok (.iconst 4, 1) := by decide +kernel
theorem dX11_readSeen_2 : decode cX11_readSeen 2 = .ok (.invokestatic 148, 3) := by decide +kernel
theorem dX11_readSeen_5 : decode cX11_readSeen 5 = .ok (.ifCond .eq 14, 3) := by decide +kernel
theorem dX11_readSeen_8 : decode cX11_readSeen 8 = .ok (.aload_n 0, 1) := by decide +kernel
theorem dX11_readSeen_9 : decode cX11_readSeen 9 = .ok (.getfield 19, 3) := by decide +kernel
theorem dX11_readSeen_12 : decode cX11_readSeen 12 = .ok (.iload_n 2, 1) := by decide +kernel
theorem dX11_readSeen_13 : decode cX11_readSeen 13 = .ok (.invokevirtual 135, 3) := by decide +kernel
theorem dX11_readSeen_16 : decode cX11_readSeen 16 = .ok (.ifCond .ne 6, 3) := by decide +kernel
theorem dX11_readSeen_19 : decode cX11_readSeen 19 = .ok (.bipush (-2), 2) := by decide +kernel
theorem dX11_readSeen_21 : decode cX11_readSeen 21 = .ok (.ireturn, 1) := by decide +kernel
theorem dX11_readSeen_22 : decode cX11_readSeen 22 = .ok (.aload_n 0, 1) := by decide +kernel
theorem dX11_readSeen_23 : decode cX11_readSeen 23 = .ok (.getfield 65, 3) := by decide +kernel
theorem dX11_readSeen_26 : decode cX11_readSeen 26 = .ok (.iload_n 1, 1) := by decide +kernel
theorem dX11_readSeen_27 : decode cX11_readSeen 27 = .ok (.invokevirtual 394, 3) := by decide +kernel
theorem dX11_readSeen_30 : decode cX11_readSeen 30 = .ok (.ifCond .ne 6, 3) := by decide +kernel
theorem dX11_readSeen_33 : decode cX11_readSeen 33 = .ok (.bipush (-6), 2) := by decide +kernel
theorem dX11_readSeen_35 : decode cX11_readSeen 35 = .ok (.ireturn, 1) := by decide +kernel
theorem dX11_readSeen_36 : decode cX11_readSeen 36 = .ok (.aload_n 0, 1) := by decide +kernel
theorem dX11_readSeen_37 : decode cX11_readSeen 37 = .ok (.getfield 72, 3) := by decide +kernel
theorem dX11_readSeen_40 : decode cX11_readSeen 40 = .ok (.aload_n 0, 1) := by decide +kernel
theorem dX11_readSeen_41 : decode cX11_readSeen 41 = .ok (.getfield 65, 3) := by decide +kernel
theorem dX11_readSeen_44 : decode cX11_readSeen 44 = .ok (.iload_n 1, 1) := by decide +kernel
theorem dX11_readSeen_45 : decode cX11_readSeen 45 = .ok (.aload_n 0, 1) := by decide +kernel
theorem dX11_readSeen_46 : decode cX11_readSeen 46 = .ok (.getfield 19, 3) := by decide +kernel
theorem dX11_readSeen_49 : decode cX11_readSeen 49 = .ok (.getfield 177, 3) := by decide +kernel
theorem dX11_readSeen_52 : decode cX11_readSeen 52 = .ok (.invokevirtual 437, 3) := by decide +kernel
theorem dX11_readSeen_55 : decode cX11_readSeen 55 = .ok (.ifCond .eq 7, 3) := by decide +kernel
theorem dX11_readSeen_58 : decode cX11_readSeen 58 = .ok (.iconst 0, 1) := by decide +kernel
theorem dX11_readSeen_59 : decode cX11_readSeen 59 = .ok (.goto 5, 3) := by decide +kernel
theorem dX11_readSeen_62 : decode cX11_readSeen 62 = .ok (.bipush (-2), 2) := by decide +kernel
theorem dX11_readSeen_64 : decode cX11_readSeen 64 = .ok (.ireturn, 1) := by decide +kernel
theorem dX11_trainIn_0 : decode cX11_trainIn 0 = .ok (.iload_n 3, 1) := by decide +kernel
theorem dX11_trainIn_1 : decode cX11_trainIn 1 = .ok (.ifCond .lt 9, 3) := by decide +kernel
theorem dX11_trainIn_4 : decode cX11_trainIn 4 = .ok (.iload_n 3, 1) := by decide +kernel
theorem dX11_trainIn_5 : decode cX11_trainIn 5 = .ok (.iload 4, 2) := by decide +kernel
theorem dX11_trainIn_7 : decode cX11_trainIn 7 = .ok (.if_icmp .le 6, 3) := by decide +kernel
theorem dX11_trainIn_10 : decode cX11_trainIn 10 = .ok (.bipush (-2), 2) := by decide +kernel
theorem dX11_trainIn_12 : decode cX11_trainIn 12 = .ok (.ireturn, 1) := by decide +kernel
theorem dX11_trainIn_13 : decode cX11_trainIn 13 = .ok (.aload_n 1, 1) := by decide +kernel
theorem dX11_trainIn_14 : decode cX11_trainIn 14 = .ok (.iload_n 2, 1) := by decide +kernel
theorem dX11_trainIn_15 : decode cX11_trainIn 15 = .ok (.iaload, 1) := by decide +kernel
theorem dX11_trainIn_16 : decode cX11_trainIn 16 = .ok (.istore 5, 2) := by decide +kernel
theorem dX11_trainIn_18 : decode cX11_trainIn 18 = .ok (.aload_n 1, 1) := by decide +kernel
theorem dX11_trainIn_19 : decode cX11_trainIn 19 = .ok (.iload_n 2, 1) := by decide +kernel
theorem dX11_trainIn_20 : decode cX11_trainIn 20 = .ok (.iload_n 3, 1) := by decide +kernel
theorem dX11_trainIn_21 : decode cX11_trainIn 21 = .ok (.iastore, 1) := by decide +kernel
theorem dX11_trainIn_22 : decode cX11_trainIn 22 = .ok (.aload_n 0, 1) := by decide +kernel
theorem dX11_trainIn_23 : decode cX11_trainIn 23 = .ok (.getfield 30, 3) := by decide +kernel
theorem dX11_trainIn_26 : decode cX11_trainIn 26 = .ok (.iconst 1, 1) := by decide +kernel
theorem dX11_trainIn_27 : decode cX11_trainIn 27 = .ok (.putfield 102, 3) := by decide +kernel
theorem dX11_trainIn_30 : decode cX11_trainIn 30 = .ok (.iload 5, 2) := by decide +kernel
theorem dX11_trainIn_32 : decode cX11_trainIn 32 = .ok (.ireturn, 1) := by decide +kernel
