theorem dX3_everDies_0 : decode cX3_everDies 0 = .ok (.iconst 0, 1) := by decide +kernel
theorem dX3_everDies_1 : decode cX3_everDies 1 = .ok (.istore_n 3, 1) := by decide +kernel
theorem dX3_everDies_2 : decode cX3_everDies 2 = .ok (.iload_n 3, 1) := by decide +kernel
theorem dX3_everDies_3 : decode cX3_everDies 3 = .ok (.bipush 16, 2) := by decide +kernel
theorem dX3_everDies_5 : decode cX3_everDies 5 = .ok (.if_icmp .ge 25, 3) := by decide +kernel
theorem dX3_everDies_8 : decode cX3_everDies 8 = .ok (.aload_n 0, 1) := by decide +kernel
theorem dX3_everDies_9 : decode cX3_everDies 9 = .ok (.iload_n 1, 1) := by decide +kernel
theorem dX3_everDies_10 : decode cX3_everDies 10 = .ok (.iload_n 2, 1) := by decide +kernel
theorem dX3_everDies_11 : decode cX3_everDies 11 = .ok (.iload_n 3, 1) := by decide +kernel
theorem dX3_everDies_12 : decode cX3_everDies 12 = .ok (.invokevirtual 57, 3) := by decide +kernel
theorem dX3_everDies_15 : decode cX3_everDies 15 = .ok (.aload_n 0, 1) := by decide +kernel
theorem dX3_everDies_16 : decode cX3_everDies 16 = .ok (.invokevirtual 53, 3) := by decide +kernel
theorem dX3_everDies_19 : decode cX3_everDies 19 = .ok (.ifCond .ne 5, 3) := by decide +kernel
theorem dX3_everDies_22 : decode cX3_everDies 22 = .ok (.iconst 1, 1) := by decide +kernel
theorem dX3_everDies_23 : decode cX3_everDies 23 = .ok (.ireturn, 1) := by decide +kernel
theorem dX3_everDies_24 : decode cX3_everDies 24 = .ok (.iinc 3 1, 3) := by decide +kernel
theorem dX3_everDies_27 : decode cX3_everDies 27 = .ok (.goto (-25), 3) := by decide +kernel
theorem dX3_everDies_30 : decode cX3_everDies 30 = .ok (.iconst 0, 1) := by decide +kernel
theorem dX3_everDies_31 : decode cX3_everDies 31 = .ok (.ireturn, 1) := by decide +kernel
theorem dX3_isIn_0 : decode cX3_isIn 0 = .ok (.aload_n 0, 1) := by decide +kernel
theorem dX3_isIn_1 : decode cX3_isIn 1 = .ok (.getfield 9, 3) := by decide +kernel
theorem dX3_isIn_4 : decode cX3_isIn 4 = .ok (.iload_n 1, 1) := by decide +kernel
theorem dX3_isIn_5 : decode cX3_isIn 5 = .ok (.iaload, 1) := by decide +kernel
theorem dX3_isIn_6 : decode cX3_isIn 6 = .ok (.aload_n 0, 1) := by decide +kernel
theorem dX3_isIn_7 : decode cX3_isIn 7 = .ok (.getfield 35, 3) := by decide +kernel
theorem dX3_isIn_10 : decode cX3_isIn 10 = .ok (.if_icmp .lt 7, 3) := by decide +kernel
theorem dX3_isIn_13 : decode cX3_isIn 13 = .ok (.iconst 1, 1) := by decide +kernel
theorem dX3_isIn_14 : decode cX3_isIn 14 = .ok (.goto 4, 3) := by decide +kernel
theorem dX3_isIn_17 : decode cX3_isIn 17 = .ok (.iconst 0, 1) := by decide +kernel
theorem dX3_isIn_18 : decode cX3_isIn 18 = .ok (.ireturn, 1) := by decide +kernel
theorem dX3_withLoss_0 : decode cX3_withLoss 0 = .ok (.aload_n 0, 1) := by decide +kernel
theorem dX3_withLoss_1 : decode cX3_withLoss 1 = .ok (.getfield 32, 3) := by decide +kernel
theorem dX3_withLoss_4 : decode cX3_withLoss 4 = .ok (.istore_n 3, 1) := by decide +kernel
theorem dX3_withLoss_5 : decode cX3_withLoss 5 = .ok (.iconst 0, 1) := by decide +kernel
theorem dX3_withLoss_6 : decode cX3_withLoss 6 = .ok (.istore 4, 2) := by decide +kernel
theorem dX3_withLoss_8 : decode cX3_withLoss 8 = .ok (.iload 4, 2) := by decide +kernel
theorem dX3_withLoss_10 : decode cX3_withLoss 10 = .ok (.iload_n 1, 1) := by decide +kernel
theorem dX3_withLoss_11 : decode cX3_withLoss 11 = .ok (.if_icmp .ge 16, 3) := by decide +kernel
theorem dX3_withLoss_14 : decode cX3_withLoss 14 = .ok (.aload_n 0, 1) := by decide +kernel
theorem dX3_withLoss_15 : decode cX3_withLoss 15 = .ok (.iload_n 3, 1) := by decide +kernel
theorem dX3_withLoss_16 : decode cX3_withLoss 16 = .ok (.iconst 3, 1) := by decide +kernel
theorem dX3_withLoss_17 : decode cX3_withLoss 17 = .ok (.invokevirtual 28, 3) := by decide +kernel
theorem dX3_withLoss_20 : decode cX3_withLoss 20 = .ok (.istore_n 3, 1) := by decide +kernel
theorem dX3_withLoss_21 : decode cX3_withLoss 21 = .ok (.iinc 4 1, 3) := by decide +kernel
theorem dX3_withLoss_24 : decode cX3_withLoss 24 = .ok (.goto (-16), 3) := by decide +kernel
theorem dX3_withLoss_27 : decode cX3_withLoss 27 = .ok (.aload_n 0, 1) := by decide +kernel
theorem dX3_withLoss_28 : decode cX3_withLoss 28 = .ok (.iload_n 3, 1) := by decide +kernel
theorem dX3_withLoss_29 : decode cX3_withLoss 29 = .ok (.iconst 3, 1) := by decide +kernel
theorem dX3_withLoss_30 : decode cX3_withLoss 30 = .ok (.iconst 1, 1) := by decide +kernel
theorem dX3_withLoss_31 : decode cX3_withLoss 31 = .ok (.iload_n 2, 1) := by decide +kernel
theorem dX3_withLoss_32 : decode cX3_withLoss 32 = .ok (.ishl, 1) := by decide +kernel
theorem dX3_withLoss_33 : decode cX3_withLoss 33 = .ok (.iconst (-1), 1) := by decide +kernel
theorem dX3_withLoss_34 : decode cX3_withLoss 34 = .ok (.ixor, 1) := by decide +kernel
theorem dX3_withLoss_35 : decode cX3_withLoss 35 = .ok (.iand, 1) := by decide +kernel
theorem dX3_withLoss_36 : decode cX3_withLoss 36 = .ok (.invokevirtual 28, 3) := by decide +kernel
theorem dX3_withLoss_39 : decode cX3_withLoss 39 = .ok (.ireturn, 1) := by decide +kernel
theorem dX9_least_0 : decode cX9_least 0 = .ok (.aload_n 0, 1) := by decide +kernel
theorem dX9_least_1 : decode cX9_least 1 = .ok (.getfield 9, 3) := by decide +kernel
theorem dX9_least_4 : decode cX9_least 4 = .ok (.aload_n 0, 1) := by decide +kernel
theorem dX9_least_5 : decode cX9_least 5 = .ok (.getfield 53, 3) := by decide +kernel
theorem dX9_least_8 : decode cX9_least 8 = .ok (.iaload, 1) := by decide +kernel
theorem dX9_least_9 : decode cX9_least 9 = .ok (.istore_n 1, 1) := by decide +kernel
theorem dX9_least_10 : decode cX9_least 10 = .ok (.iload_n 1, 1) := by decide +kernel
theorem dX9_least_11 : decode cX9_least 11 = .ok (.ldc 43, 2) := by decide +kernel
theorem dX9_least_13 : decode cX9_least 13 = .ok (.if_icmp .lt 7, 3) := by decide +kernel
theorem dX9_least_16 : decode cX9_least 16 = .ok (.iconst (-1), 1) := by decide +kernel
theorem dX9_least_17 : decode cX9_least 17 = .ok (.goto 4, 3) := by decide +kernel
theorem dX9_least_20 : decode cX9_least 20 = .ok (.iload_n 1, 1) := by decide +kernel
theorem dX9_least_21 : decode cX9_least 21 = .ok (.ireturn, 1) := by decide +kernel
theorem dX9_choiceIn_0 : decode cX9_choiceIn 0 = .ok (.aload_n 0, 1) := by decide +kernel
theorem dX9_choiceIn_1 : decode cX9_choiceIn 1 = .ok (.invokevirtual 56, 3) := by decide +kernel
theorem dX9_choiceIn_4 : decode cX9_choiceIn 4 = .ok (.iconst (-1), 1) := by decide +kernel
theorem dX9_choiceIn_5 : decode cX9_choiceIn 5 = .ok (.if_icmp .ne 5, 3) := by decide +kernel
theorem dX9_choiceIn_8 : decode cX9_choiceIn 8 = .ok (.iconst (-1), 1) := by decide +kernel
theorem dX9_choiceIn_9 : decode cX9_choiceIn 9 = .ok (.ireturn, 1) := by decide +kernel
theorem dX9_choiceIn_10 : decode cX9_choiceIn 10 = .ok (.aload_n 0, 1) := by decide +kernel
theorem dX9_choiceIn_11 : decode cX9_choiceIn 11 = .ok (.getfield 53, 3) := by decide +kernel
theorem dX9_choiceIn_14 : decode cX9_choiceIn 14 = .ok (.istore_n 2, 1) := by decide +kernel
theorem dX9_choiceIn_15 : decode cX9_choiceIn 15 = .ok (.iconst 0, 1) := by decide +kernel
theorem dX9_choiceIn_16 : decode cX9_choiceIn 16 = .ok (.istore_n 3, 1) := by decide +kernel
theorem dX9_choiceIn_17 : decode cX9_choiceIn 17 = .ok (.iload_n 3, 1) := by decide +kernel
theorem dX9_choiceIn_18 : decode cX9_choiceIn 18 = .ok (.iload_n 1, 1) := by decide +kernel
theorem dX9_choiceIn_19 : decode cX9_choiceIn 19 = .ok (.if_icmp .ge 21, 3) := by decide +kernel
theorem dX9_choiceIn_22 : decode cX9_choiceIn 22 = .ok (.aload_n 0, 1) := by decide +kernel
theorem dX9_choiceIn_23 : decode cX9_choiceIn 23 = .ok (.iload_n 2, 1) := by decide +kernel
theorem dX9_choiceIn_24 : decode cX9_choiceIn 24 = .ok (.aload_n 0, 1) := by decide +kernel
theorem dX9_choiceIn_25 : decode cX9_choiceIn 25 = .ok (.iload_n 3, 1) := by decide +kernel
theorem dX9_choiceIn_26 : decode cX9_choiceIn 26 = .ok (.iload_n 2, 1) := by decide +kernel
theorem dX9_choiceIn_27 : decode cX9_choiceIn 27 = .ok (.invokevirtual 59, 3) := by decide +kernel
theorem dX9_choiceIn_30 : decode cX9_choiceIn 30 = .ok (.invokevirtual 63, 3) := by decide +kernel
theorem dX9_choiceIn_33 : decode cX9_choiceIn 33 = .ok (.istore_n 2, 1) := by decide +kernel
theorem dX9_choiceIn_34 : decode cX9_choiceIn 34 = .ok (.iinc 3 1, 3) := by decide +kernel
theorem dX9_choiceIn_37 : decode cX9_choiceIn 37 = .ok (.goto (-20), 3) := by decide +kernel
theorem dX9_choiceIn_40 : decode cX9_choiceIn 40 = .ok (.aload_n 0, 1) := by decide +kernel
theorem dX9_choiceIn_41 : decode cX9_choiceIn 41 = .ok (.iload_n 1, 1) := by decide +kernel
theorem dX9_choiceIn_42 : decode cX9_choiceIn 42 = .ok (.iload_n 2, 1) := by decide +kernel
theorem dX9_choiceIn_43 : decode cX9_choiceIn 43 = .ok (.invokevirtual 59, 3) := by decide +kernel
theorem dX9_choiceIn_46 : decode cX9_choiceIn 46 = .ok (.ireturn, 1) := by decide +kernel
theorem dX9_take_0 : decode cX9_take 0 = .ok (.aload_n 0, 1) := by decide +kernel
theorem dX9_take_1 : decode cX9_take 1 = .ok (.iload_n 3, 1) := by decide +kernel
theorem dX9_take_2 : decode cX9_take 2 = .ok (.putfield 23, 3) := by decide +kernel
theorem dX9_take_5 : decode cX9_take 5 = .ok (.aload_n 0, 1) := by decide +kernel
theorem dX9_take_6 : decode cX9_take 6 = .ok (.aload_n 1, 1) := by decide +kernel
theorem dX9_take_7 : decode cX9_take 7 = .ok (.iload_n 2, 1) := by decide +kernel
theorem dX9_take_8 : decode cX9_take 8 = .ok (.iconst 1, 1) := by decide +kernel
theorem dX9_take_9 : decode cX9_take 9 = .ok (.iload_n 3, 1) := by decide +kernel
theorem dX9_take_10 : decode cX9_take 10 = .ok (.isub, 1) := by decide +kernel
theorem dX9_take_11 : decode cX9_take 11 = .ok (.invokevirtual 66, 3) := by decide +kernel
theorem dX9_take_14 : decode cX9_take 14 = .ok (.putfield 27, 3) := by decide +kernel
theorem dX9_take_17 : decode cX9_take 17 = .ok (.aload_n 0, 1) := by decide +kernel
theorem dX9_take_18 : decode cX9_take 18 = .ok (.aload_n 1, 1) := by decide +kernel
theorem dX9_take_19 : decode cX9_take 19 = .ok (.getfield 71, 3) := by decide +kernel
theorem dX9_take_22 : decode cX9_take 22 = .ok (.iload_n 2, 1) := by decide +kernel
theorem dX9_take_23 : decode cX9_take 23 = .ok (.iaload, 1) := by decide +kernel
theorem dX9_take_24 : decode cX9_take 24 = .ok (.putfield 53, 3) := by decide +kernel
theorem dX9_take_27 : decode cX9_take 27 = .ok (.aload_n 0, 1) := by decide +kernel
theorem dX9_take_28 : decode cX9_take 28 = .ok (.iload 4, 2) := by decide +kernel
theorem dX9_take_30 : decode cX9_take 30 = .ok (.putfield 36, 3) := by decide +kernel
theorem dX9_take_33 : decode cX9_take 33 = .ok (.aload_n 0, 1) := by decide +kernel
theorem dX9_take_34 : decode cX9_take 34 = .ok (.aload_n 1, 1) := by decide +kernel
theorem dX9_take_35 : decode cX9_take 35 = .ok (.getfield 73, 3) := by decide +kernel
theorem dX9_take_38 : decode cX9_take 38 = .ok (.putfield 76, 3) := by decide +kernel
theorem dX9_take_41 : decode cX9_take 41 = .ok (.aload_n 0, 1) := by decide +kernel
theorem dX9_take_42 : decode cX9_take 42 = .ok (.aload_n 1, 1) := by decide +kernel
theorem dX9_take_43 : decode cX9_take 43 = .ok (.getfield 77, 3) := by decide +kernel
theorem dX9_take_46 : decode cX9_take 46 = .ok (.putfield 80, 3) := by decide +kernel
theorem dX9_take_49 : decode cX9_take 49 = .ok (.return_, 1) := by decide +kernel
theorem dX9_goBack_0 : decode cX9_goBack 0 = .ok (.aload_n 0, 1) := by decide +kernel
theorem dX9_goBack_1 : decode cX9_goBack 1 = .ok (.getfield 36, 3) := by decide +kernel
theorem dX9_goBack_4 : decode cX9_goBack 4 = .ok (.iconst 1, 1) := by decide +kernel
theorem dX9_goBack_5 : decode cX9_goBack 5 = .ok (.isub, 1) := by decide +kernel
theorem dX9_goBack_6 : decode cX9_goBack 6 = .ok (.istore_n 1, 1) := by decide +kernel
theorem dX9_goBack_7 : decode cX9_goBack 7 = .ok (.iload_n 1, 1) := by decide +kernel
theorem dX9_goBack_8 : decode cX9_goBack 8 = .ok (.ifCond .lt 51, 3) := by decide +kernel
theorem dX9_goBack_11 : decode cX9_goBack 11 = .ok (.iconst 0, 1) := by decide +kernel
theorem dX9_goBack_12 : decode cX9_goBack 12 = .ok (.istore_n 2, 1) := by decide +kernel
theorem dX9_goBack_13 : decode cX9_goBack 13 = .ok (.iload_n 2, 1) := by decide +kernel
theorem dX9_goBack_14 : decode cX9_goBack 14 = .ok (.bipush 16, 2) := by decide +kernel
theorem dX9_goBack_16 : decode cX9_goBack 16 = .ok (.if_icmp .ge 37, 3) := by decide +kernel
theorem dX9_goBack_19 : decode cX9_goBack 19 = .ok (.aload_n 0, 1) := by decide +kernel
theorem dX9_goBack_20 : decode cX9_goBack 20 = .ok (.getfield 9, 3) := by decide +kernel
theorem dX9_goBack_23 : decode cX9_goBack 23 = .ok (.bipush 16, 2) := by decide +kernel
theorem dX9_goBack_25 : decode cX9_goBack 25 = .ok (.iload_n 1, 1) := by decide +kernel
theorem dX9_goBack_26 : decode cX9_goBack 26 = .ok (.imul, 1) := by decide +kernel
theorem dX9_goBack_27 : decode cX9_goBack 27 = .ok (.iload_n 2, 1) := by decide +kernel
theorem dX9_goBack_28 : decode cX9_goBack 28 = .ok (.iadd, 1) := by decide +kernel
theorem dX9_goBack_29 : decode cX9_goBack 29 = .ok (.aload_n 0, 1) := by decide +kernel
theorem dX9_goBack_30 : decode cX9_goBack 30 = .ok (.iload_n 1, 1) := by decide +kernel
theorem dX9_goBack_31 : decode cX9_goBack 31 = .ok (.iload_n 2, 1) := by decide +kernel
theorem dX9_goBack_32 : decode cX9_goBack 32 = .ok (.iconst 0, 1) := by decide +kernel
theorem dX9_goBack_33 : decode cX9_goBack 33 = .ok (.invokevirtual 81, 3) := by decide +kernel
theorem dX9_goBack_36 : decode cX9_goBack 36 = .ok (.aload_n 0, 1) := by decide +kernel
theorem dX9_goBack_37 : decode cX9_goBack 37 = .ok (.iload_n 1, 1) := by decide +kernel
theorem dX9_goBack_38 : decode cX9_goBack 38 = .ok (.iload_n 2, 1) := by decide +kernel
theorem dX9_goBack_39 : decode cX9_goBack 39 = .ok (.iconst 1, 1) := by decide +kernel
theorem dX9_goBack_40 : decode cX9_goBack 40 = .ok (.invokevirtual 81, 3) := by decide +kernel
theorem dX9_goBack_43 : decode cX9_goBack 43 = .ok (.invokestatic 85, 3) := by decide +kernel
theorem dX9_goBack_46 : decode cX9_goBack 46 = .ok (.iastore, 1) := by decide +kernel
theorem dX9_goBack_47 : decode cX9_goBack 47 = .ok (.iinc 2 1, 3) := by decide +kernel
theorem dX9_goBack_50 : decode cX9_goBack 50 = .ok (.goto (-37), 3) := by decide +kernel
theorem dX9_goBack_53 : decode cX9_goBack 53 = .ok (.iinc 1 (-1), 3) := by decide +kernel
theorem dX9_goBack_56 : decode cX9_goBack 56 = .ok (.goto (-49), 3) := by decide +kernel
theorem dX9_goBack_59 : decode cX9_goBack 59 = .ok (.return_, 1) := by decide +kernel
theorem dX9_choiceFrom_0 : decode cX9_choiceFrom 0 = .ok (.aload_n 0, 1) := by decide +kernel
theorem dX9_choiceFrom_1 : decode cX9_choiceFrom 1 = .ok (.iload_n 1, 1) := by decide +kernel
theorem dX9_choiceFrom_2 : decode cX9_choiceFrom 2 = .ok (.iload_n 2, 1) := by decide +kernel
theorem dX9_choiceFrom_3 : decode cX9_choiceFrom 3 = .ok (.iconst 0, 1) := by decide +kernel
theorem dX9_choiceFrom_4 : decode cX9_choiceFrom 4 = .ok (.invokevirtual 81, 3) := by decide +kernel
theorem dX9_choiceFrom_7 : decode cX9_choiceFrom 7 = .ok (.aload_n 0, 1) := by decide +kernel
theorem dX9_choiceFrom_8 : decode cX9_choiceFrom 8 = .ok (.iload_n 1, 1) := by decide +kernel
theorem dX9_choiceFrom_9 : decode cX9_choiceFrom 9 = .ok (.iload_n 2, 1) := by decide +kernel
theorem dX9_choiceFrom_10 : decode cX9_choiceFrom 10 = .ok (.iconst 1, 1) := by decide +kernel
theorem dX9_choiceFrom_11 : decode cX9_choiceFrom 11 = .ok (.invokevirtual 81, 3) := by decide +kernel
theorem dX9_choiceFrom_14 : decode cX9_choiceFrom 14 = .ok (.if_icmp .gt 7, 3) := by decide +kernel
theorem dX9_choiceFrom_17 : decode cX9_choiceFrom 17 = .ok (.iconst 0, 1) := by decide +kernel
theorem dX9_choiceFrom_18 : decode cX9_choiceFrom 18 = .ok (.goto 4, 3) := by decide +kernel
theorem dX9_choiceFrom_21 : decode cX9_choiceFrom 21 = .ok (.iconst 1, 1) := by decide +kernel
theorem dX9_choiceFrom_22 : decode cX9_choiceFrom 22 = .ok (.ireturn, 1) := by decide +kernel
theorem dX9_worthOf_0 : decode cX9_worthOf 0 = .ok (.aload_n 0, 1) := by decide +kernel
theorem dX9_worthOf_1 : decode cX9_worthOf 1 = .ok (.iload_n 2, 1) := by decide +kernel
theorem dX9_worthOf_2 : decode cX9_worthOf 2 = .ok (.iload_n 3, 1) := by decide +kernel
theorem dX9_worthOf_3 : decode cX9_worthOf 3 = .ok (.invokevirtual 90, 3) := by decide +kernel
theorem dX9_worthOf_6 : decode cX9_worthOf 6 = .ok (.istore 4, 2) := by decide +kernel
theorem dX9_worthOf_8 : decode cX9_worthOf 8 = .ok (.aload_n 0, 1) := by decide +kernel
theorem dX9_worthOf_9 : decode cX9_worthOf 9 = .ok (.getfield 19, 3) := by decide +kernel
theorem dX9_worthOf_12 : decode cX9_worthOf 12 = .ok (.ifCond .ne 22, 3) := by decide +kernel
theorem dX9_worthOf_15 : decode cX9_worthOf 15 = .ok (.iload_n 1, 1) := by decide +kernel
theorem dX9_worthOf_16 : decode cX9_worthOf 16 = .ok (.aload_n 0, 1) := by decide +kernel
theorem dX9_worthOf_17 : decode cX9_worthOf 17 = .ok (.getfield 36, 3) := by decide +kernel
theorem dX9_worthOf_20 : decode cX9_worthOf 20 = .ok (.iconst 1, 1) := by decide +kernel
theorem dX9_worthOf_21 : decode cX9_worthOf 21 = .ok (.isub, 1) := by decide +kernel
theorem dX9_worthOf_22 : decode cX9_worthOf 22 = .ok (.if_icmp .ne 12, 3) := by decide +kernel
theorem dX9_worthOf_25 : decode cX9_worthOf 25 = .ok (.iload 4, 2) := by decide +kernel
theorem dX9_worthOf_27 : decode cX9_worthOf 27 = .ok (.iconst 3, 1) := by decide +kernel
theorem dX9_worthOf_28 : decode cX9_worthOf 28 = .ok (.if_icmp .eq 6, 3) := by decide +kernel
theorem dX9_worthOf_31 : decode cX9_worthOf 31 = .ok (.ldc 43, 2) := by decide +kernel
theorem dX9_worthOf_33 : decode cX9_worthOf 33 = .ok (.ireturn, 1) := by decide +kernel
theorem dX9_worthOf_34 : decode cX9_worthOf 34 = .ok (.aload_n 0, 1) := by decide +kernel
theorem dX9_worthOf_35 : decode cX9_worthOf 35 = .ok (.getfield 9, 3) := by decide +kernel
theorem dX9_worthOf_38 : decode cX9_worthOf 38 = .ok (.bipush 16, 2) := by decide +kernel
theorem dX9_worthOf_40 : decode cX9_worthOf 40 = .ok (.iload_n 1, 1) := by decide +kernel
theorem dX9_worthOf_41 : decode cX9_worthOf 41 = .ok (.iconst 1, 1) := by decide +kernel
theorem dX9_worthOf_42 : decode cX9_worthOf 42 = .ok (.iadd, 1) := by decide +kernel
theorem dX9_worthOf_43 : decode cX9_worthOf 43 = .ok (.imul, 1) := by decide +kernel
theorem dX9_worthOf_44 : decode cX9_worthOf 44 = .ok (.aload_n 0, 1) := by decide +kernel
theorem dX9_worthOf_45 : decode cX9_worthOf 45 = .ok (.iload_n 2, 1) := by decide +kernel
theorem dX9_worthOf_46 : decode cX9_worthOf 46 = .ok (.iload_n 3, 1) := by decide +kernel
theorem dX9_worthOf_47 : decode cX9_worthOf 47 = .ok (.invokevirtual 63, 3) := by decide +kernel
theorem dX9_worthOf_50 : decode cX9_worthOf 50 = .ok (.iadd, 1) := by decide +kernel
theorem dX9_worthOf_51 : decode cX9_worthOf 51 = .ok (.iaload, 1) := by decide +kernel
theorem dX9_worthOf_52 : decode cX9_worthOf 52 = .ok (.istore 5, 2) := by decide +kernel
theorem dX9_worthOf_54 : decode cX9_worthOf 54 = .ok (.aload_n 0, 1) := by decide +kernel
theorem dX9_worthOf_55 : decode cX9_worthOf 55 = .ok (.getfield 19, 3) := by decide +kernel
theorem dX9_worthOf_58 : decode cX9_worthOf 58 = .ok (.ifCond .eq 12, 3) := by decide +kernel
theorem dX9_worthOf_61 : decode cX9_worthOf 61 = .ok (.aload_n 0, 1) := by decide +kernel
theorem dX9_worthOf_62 : decode cX9_worthOf 62 = .ok (.iload 4, 2) := by decide +kernel
theorem dX9_worthOf_64 : decode cX9_worthOf 64 = .ok (.invokevirtual 93, 3) := by decide +kernel
theorem dX9_worthOf_67 : decode cX9_worthOf 67 = .ok (.goto 4, 3) := by decide +kernel
theorem dX9_worthOf_70 : decode cX9_worthOf 70 = .ok (.iload_n 3, 1) := by decide +kernel
theorem dX9_worthOf_71 : decode cX9_worthOf 71 = .ok (.istore 6, 2) := by decide +kernel
theorem dX9_worthOf_73 : decode cX9_worthOf 73 = .ok (.ldc 43, 2) := by decide +kernel
theorem dX9_worthOf_75 : decode cX9_worthOf 75 = .ok (.iload 5, 2) := by decide +kernel
theorem dX9_worthOf_77 : decode cX9_worthOf 77 = .ok (.iload 6, 2) := by decide +kernel
theorem dX9_worthOf_79 : decode cX9_worthOf 79 = .ok (.iadd, 1) := by decide +kernel
theorem dX9_worthOf_80 : decode cX9_worthOf 80 = .ok (.invokestatic 85, 3) := by decide +kernel
theorem dX9_worthOf_83 : decode cX9_worthOf 83 = .ok (.ireturn, 1) := by decide +kernel
theorem dX9_priceOf_0 : decode cX9_priceOf 0 = .ok (.aload_n 0, 1) := by decide +kernel
theorem dX9_priceOf_1 : decode cX9_priceOf 1 = .ok (.getfield 76, 3) := by decide +kernel
theorem dX9_priceOf_4 : decode cX9_priceOf 4 = .ok (.iload_n 1, 1) := by decide +kernel
theorem dX9_priceOf_5 : decode cX9_priceOf 5 = .ok (.invokestatic 97, 3) := by decide +kernel
theorem dX9_priceOf_8 : decode cX9_priceOf 8 = .ok (.imul, 1) := by decide +kernel
theorem dX9_priceOf_9 : decode cX9_priceOf 9 = .ok (.aload_n 0, 1) := by decide +kernel
theorem dX9_priceOf_10 : decode cX9_priceOf 10 = .ok (.getfield 80, 3) := by decide +kernel
theorem dX9_priceOf_13 : decode cX9_priceOf 13 = .ok (.iload_n 1, 1) := by decide +kernel
theorem dX9_priceOf_14 : decode cX9_priceOf 14 = .ok (.iload_n 1, 1) := by decide +kernel
theorem dX9_priceOf_15 : decode cX9_priceOf 15 = .ok (.invokestatic 102, 3) := by decide +kernel
theorem dX9_priceOf_18 : decode cX9_priceOf 18 = .ok (.iconst (-1), 1) := by decide +kernel
theorem dX9_priceOf_19 : decode cX9_priceOf 19 = .ok (.ixor, 1) := by decide +kernel
theorem dX9_priceOf_20 : decode cX9_priceOf 20 = .ok (.iand, 1) := by decide +kernel
theorem dX9_priceOf_21 : decode cX9_priceOf 21 = .ok (.invokestatic 97, 3) := by decide +kernel
theorem dX9_priceOf_24 : decode cX9_priceOf 24 = .ok (.imul, 1) := by decide +kernel
theorem dX9_priceOf_25 : decode cX9_priceOf 25 = .ok (.iadd, 1) := by decide +kernel
theorem dX9_priceOf_26 : decode cX9_priceOf 26 = .ok (.ireturn, 1) := by decide +kernel
theorem dX9_sentBy_0 : decode cX9_sentBy 0 = .ok (.aload_n 0, 1) := by decide +kernel
theorem dX9_sentBy_1 : decode cX9_sentBy 1 = .ok (.getfield 23, 3) := by decide +kernel
theorem dX9_sentBy_4 : decode cX9_sentBy 4 = .ok (.ifCond .ne 7, 3) := by decide +kernel
theorem dX9_sentBy_7 : decode cX9_sentBy 7 = .ok (.iconst 0, 1) := by decide +kernel
theorem dX9_sentBy_8 : decode cX9_sentBy 8 = .ok (.goto 7, 3) := by decide +kernel
theorem dX9_sentBy_11 : decode cX9_sentBy 11 = .ok (.aload_n 0, 1) := by decide +kernel
theorem dX9_sentBy_12 : decode cX9_sentBy 12 = .ok (.getfield 27, 3) := by decide +kernel
theorem dX9_sentBy_15 : decode cX9_sentBy 15 = .ok (.istore_n 3, 1) := by decide +kernel
theorem dX9_sentBy_16 : decode cX9_sentBy 16 = .ok (.aload_n 0, 1) := by decide +kernel
theorem dX9_sentBy_17 : decode cX9_sentBy 17 = .ok (.getfield 23, 3) := by decide +kernel
theorem dX9_sentBy_20 : decode cX9_sentBy 20 = .ok (.ifCond .ne 10, 3) := by decide +kernel
theorem dX9_sentBy_23 : decode cX9_sentBy 23 = .ok (.aload_n 0, 1) := by decide +kernel
theorem dX9_sentBy_24 : decode cX9_sentBy 24 = .ok (.getfield 27, 3) := by decide +kernel
theorem dX9_sentBy_27 : decode cX9_sentBy 27 = .ok (.goto 4, 3) := by decide +kernel
theorem dX9_sentBy_30 : decode cX9_sentBy 30 = .ok (.iconst 0, 1) := by decide +kernel
theorem dX9_sentBy_31 : decode cX9_sentBy 31 = .ok (.istore 4, 2) := by decide +kernel
theorem dX9_sentBy_33 : decode cX9_sentBy 33 = .ok (.iload_n 3, 1) := by decide +kernel
theorem dX9_sentBy_34 : decode cX9_sentBy 34 = .ok (.iload 4, 2) := by decide +kernel
theorem dX9_sentBy_36 : decode cX9_sentBy 36 = .ok (.iload_n 1, 1) := by decide +kernel
theorem dX9_sentBy_37 : decode cX9_sentBy 37 = .ok (.invokestatic 107, 3) := by decide +kernel
theorem dX9_sentBy_40 : decode cX9_sentBy 40 = .ok (.iload_n 2, 1) := by decide +kernel
theorem dX9_sentBy_41 : decode cX9_sentBy 41 = .ok (.aload_n 0, 1) := by decide +kernel
theorem dX9_sentBy_42 : decode cX9_sentBy 42 = .ok (.getfield 23, 3) := by decide +kernel
theorem dX9_sentBy_45 : decode cX9_sentBy 45 = .ok (.ishl, 1) := by decide +kernel
theorem dX9_sentBy_46 : decode cX9_sentBy 46 = .ok (.ior, 1) := by decide +kernel
theorem dX9_sentBy_47 : decode cX9_sentBy 47 = .ok (.istore 5, 2) := by decide +kernel
theorem dX9_sentBy_49 : decode cX9_sentBy 49 = .ok (.iload 5, 2) := by decide +kernel
theorem dX9_sentBy_51 : decode cX9_sentBy 51 = .ok (.iload 5, 2) := by decide +kernel
theorem dX9_sentBy_53 : decode cX9_sentBy 53 = .ok (.iload_n 3, 1) := by decide +kernel
theorem dX9_sentBy_54 : decode cX9_sentBy 54 = .ok (.iload 4, 2) := by decide +kernel
theorem dX9_sentBy_56 : decode cX9_sentBy 56 = .ok (.invokestatic 110, 3) := by decide +kernel
theorem dX9_sentBy_59 : decode cX9_sentBy 59 = .ok (.iconst 3, 1) := by decide +kernel
theorem dX9_sentBy_60 : decode cX9_sentBy 60 = .ok (.invokestatic 113, 3) := by decide +kernel
theorem dX9_sentBy_63 : decode cX9_sentBy 63 = .ok (.ior, 1) := by decide +kernel
theorem dX9_sentBy_64 : decode cX9_sentBy 64 = .ok (.ireturn, 1) := by decide +kernel
theorem dX9_next_0 : decode cX9_next 0 = .ok (.iload_n 1, 1) := by decide +kernel
theorem dX9_next_1 : decode cX9_next 1 = .ok (.aload_n 0, 1) := by decide +kernel
theorem dX9_next_2 : decode cX9_next 2 = .ok (.iload_n 1, 1) := by decide +kernel
theorem dX9_next_3 : decode cX9_next 3 = .ok (.iload_n 2, 1) := by decide +kernel
theorem dX9_next_4 : decode cX9_next 4 = .ok (.invokevirtual 90, 3) := by decide +kernel
theorem dX9_next_7 : decode cX9_next 7 = .ok (.invokestatic 102, 3) := by decide +kernel
theorem dX9_next_10 : decode cX9_next 10 = .ok (.invokestatic 116, 3) := by decide +kernel
theorem dX9_next_13 : decode cX9_next 13 = .ok (.ireturn, 1) := by decide +kernel
