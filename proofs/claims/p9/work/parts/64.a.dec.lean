theorem dX12_isOver_0 : decode cX12_isOver 0 = .ok (.aload_n 0, 1) := by decide +kernel
theorem dX12_isOver_1 : decode cX12_isOver 1 = .ok (.iconst 0, 1) := by decide +kernel
theorem dX12_isOver_2 : decode cX12_isOver 2 = .ok (.putfield 124, 3) := by decide +kernel
theorem dX12_isOver_5 : decode cX12_isOver 5 = .ok (.aload_n 0, 1) := by decide +kernel
theorem dX12_isOver_6 : decode cX12_isOver 6 = .ok (.aload_n 0, 1) := by decide +kernel
theorem dX12_isOver_7 : decode cX12_isOver 7 = .ok (.getfield 159, 3) := by decide +kernel
theorem dX12_isOver_10 : decode cX12_isOver 10 = .ok (.putfield 186, 3) := by decide +kernel
theorem dX12_isOver_13 : decode cX12_isOver 13 = .ok (.aload_n 0, 1) := by decide +kernel
theorem dX12_isOver_14 : decode cX12_isOver 14 = .ok (.aload_n 0, 1) := by decide +kernel
theorem dX12_isOver_15 : decode cX12_isOver 15 = .ok (.getfield 159, 3) := by decide +kernel
theorem dX12_isOver_18 : decode cX12_isOver 18 = .ok (.ifCond .ne 7, 3) := by decide +kernel
theorem dX12_isOver_21 : decode cX12_isOver 21 = .ok (.iconst (-1), 1) := by decide +kernel
theorem dX12_isOver_22 : decode cX12_isOver 22 = .ok (.goto 7, 3) := by decide +kernel
theorem dX12_isOver_25 : decode cX12_isOver 25 = .ok (.aload_n 0, 1) := by decide +kernel
theorem dX12_isOver_26 : decode cX12_isOver 26 = .ok (.getfield 162, 3) := by decide +kernel
theorem dX12_isOver_29 : decode cX12_isOver 29 = .ok (.putfield 27, 3) := by decide +kernel
theorem dX12_isOver_32 : decode cX12_isOver 32 = .ok (.return_, 1) := by decide +kernel
theorem dX12_fault_0 : decode cX12_fault 0 = .ok (.aload_n 0, 1) := by decide +kernel
theorem dX12_fault_1 : decode cX12_fault 1 = .ok (.iconst 0, 1) := by decide +kernel
theorem dX12_fault_2 : decode cX12_fault 2 = .ok (.putfield 107, 3) := by decide +kernel
theorem dX12_fault_5 : decode cX12_fault 5 = .ok (.iload_n 1, 1) := by decide +kernel
theorem dX12_fault_6 : decode cX12_fault 6 = .ok (.ifCond .ne 10, 3) := by decide +kernel
theorem dX12_fault_9 : decode cX12_fault 9 = .ok (.aload_n 0, 1) := by decide +kernel
theorem dX12_fault_10 : decode cX12_fault 10 = .ok (.getfield 186, 3) := by decide +kernel
theorem dX12_fault_13 : decode cX12_fault 13 = .ok (.goto 16, 3) := by decide +kernel
theorem dX12_fault_16 : decode cX12_fault 16 = .ok (.iload_n 1, 1) := by decide +kernel
theorem dX12_fault_17 : decode cX12_fault 17 = .ok (.iconst 1, 1) := by decide +kernel
theorem dX12_fault_18 : decode cX12_fault 18 = .ok (.if_icmp .ne 10, 3) := by decide +kernel
theorem dX12_fault_21 : decode cX12_fault 21 = .ok (.aload_n 0, 1) := by decide +kernel
theorem dX12_fault_22 : decode cX12_fault 22 = .ok (.getfield 27, 3) := by decide +kernel
theorem dX12_fault_25 : decode cX12_fault 25 = .ok (.goto 4, 3) := by decide +kernel
theorem dX12_fault_28 : decode cX12_fault 28 = .ok (.iconst (-1), 1) := by decide +kernel
theorem dX12_fault_29 : decode cX12_fault 29 = .ok (.ireturn, 1) := by decide +kernel
theorem dX12_hasRead_0 : decode cX12_hasRead 0 = .ok (.aload_n 0, 1) := by decide +kernel
theorem dX12_hasRead_1 : decode cX12_hasRead 1 = .ok (.getfield 34, 3) := by decide +kernel
theorem dX12_hasRead_4 : decode cX12_hasRead 4 = .ok (.bipush 20, 2) := by decide +kernel
theorem dX12_hasRead_6 : decode cX12_hasRead 6 = .ok (.iload_n 1, 1) := by decide +kernel
theorem dX12_hasRead_7 : decode cX12_hasRead 7 = .ok (.iadd, 1) := by decide +kernel
theorem dX12_hasRead_8 : decode cX12_hasRead 8 = .ok (.iaload, 1) := by decide +kernel
theorem dX12_hasRead_9 : decode cX12_hasRead 9 = .ok (.ireturn, 1) := by decide +kernel
theorem dX12_personHere_0 : decode cX12_personHere 0 = .ok (.aload_n 0, 1) := by decide +kernel
theorem dX12_personHere_1 : decode cX12_personHere 1 = .ok (.iconst 0, 1) := by decide +kernel
theorem dX12_personHere_2 : decode cX12_personHere 2 = .ok (.aload_n 0, 1) := by decide +kernel
theorem dX12_personHere_3 : decode cX12_personHere 3 = .ok (.iconst 3, 1) := by decide +kernel
theorem dX12_personHere_4 : decode cX12_personHere 4 = .ok (.invokevirtual 189, 3) := by decide +kernel
theorem dX12_personHere_7 : decode cX12_personHere 7 = .ok (.iconst 1, 1) := by decide +kernel
theorem dX12_personHere_8 : decode cX12_personHere 8 = .ok (.isub, 1) := by decide +kernel
theorem dX12_personHere_9 : decode cX12_personHere 9 = .ok (.invokevirtual 182, 3) := by decide +kernel
theorem dX12_personHere_12 : decode cX12_personHere 12 = .ok (.ireturn, 1) := by decide +kernel
theorem dX12_yearHere_0 : decode cX12_yearHere 0 = .ok (.aload_n 0, 1) := by decide +kernel
theorem dX12_yearHere_1 : decode cX12_yearHere 1 = .ok (.iconst 0, 1) := by decide +kernel
theorem dX12_yearHere_2 : decode cX12_yearHere 2 = .ok (.aload_n 0, 1) := by decide +kernel
theorem dX12_yearHere_3 : decode cX12_yearHere 3 = .ok (.iconst 0, 1) := by decide +kernel
theorem dX12_yearHere_4 : decode cX12_yearHere 4 = .ok (.invokevirtual 189, 3) := by decide +kernel
theorem dX12_yearHere_7 : decode cX12_yearHere 7 = .ok (.iconst 1, 1) := by decide +kernel
theorem dX12_yearHere_8 : decode cX12_yearHere 8 = .ok (.isub, 1) := by decide +kernel
theorem dX12_yearHere_9 : decode cX12_yearHere 9 = .ok (.invokevirtual 182, 3) := by decide +kernel
theorem dX12_yearHere_12 : decode cX12_yearHere 12 = .ok (.ireturn, 1) := by decide +kernel
