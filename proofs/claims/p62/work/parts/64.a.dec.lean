theorem dX12_number_0 : decode cX12_number 0 = .ok (.aload_n 0, 1) := by decide +kernel
theorem dX12_number_1 : decode cX12_number 1 = .ok (.getfield 159, 3) := by decide +kernel
theorem dX12_number_4 : decode cX12_number 4 = .ok (.ifCond .eq 5, 3) := by decide +kernel
theorem dX12_number_7 : decode cX12_number 7 = .ok (.iload_n 1, 1) := by decide +kernel
theorem dX12_number_8 : decode cX12_number 8 = .ok (.ireturn, 1) := by decide +kernel
theorem dX12_number_9 : decode cX12_number 9 = .ok (.aload_n 0, 1) := by decide +kernel
theorem dX12_number_10 : decode cX12_number 10 = .ok (.getfield 148, 3) := by decide +kernel
theorem dX12_number_13 : decode cX12_number 13 = .ok (.iconst 2, 1) := by decide +kernel
theorem dX12_number_14 : decode cX12_number 14 = .ok (.if_icmp .eq 10, 3) := by decide +kernel
theorem dX12_number_17 : decode cX12_number 17 = .ok (.aload_n 0, 1) := by decide +kernel
theorem dX12_number_18 : decode cX12_number 18 = .ok (.iconst 1, 1) := by decide +kernel
theorem dX12_number_19 : decode cX12_number 19 = .ok (.invokevirtual 175, 3) := by decide +kernel
theorem dX12_number_22 : decode cX12_number 22 = .ok (.iload_n 1, 1) := by decide +kernel
theorem dX12_number_23 : decode cX12_number 23 = .ok (.ireturn, 1) := by decide +kernel
theorem dX12_number_24 : decode cX12_number 24 = .ok (.aload_n 0, 1) := by decide +kernel
theorem dX12_number_25 : decode cX12_number 25 = .ok (.getfield 141, 3) := by decide +kernel
theorem dX12_number_28 : decode cX12_number 28 = .ok (.i2l, 1) := by decide +kernel
theorem dX12_number_29 : decode cX12_number 29 = .ok (.iload_n 1, 1) := by decide +kernel
theorem dX12_number_30 : decode cX12_number 30 = .ok (.i2l, 1) := by decide +kernel
theorem dX12_number_31 : decode cX12_number 31 = .ok (.iload_n 2, 1) := by decide +kernel
theorem dX12_number_32 : decode cX12_number 32 = .ok (.i2l, 1) := by decide +kernel
theorem dX12_number_33 : decode cX12_number 33 = .ok (.invokestatic 112, 3) := by decide +kernel
theorem dX12_number_36 : decode cX12_number 36 = .ok (.ifCond .ne 10, 3) := by decide +kernel
theorem dX12_number_39 : decode cX12_number 39 = .ok (.aload_n 0, 1) := by decide +kernel
theorem dX12_number_40 : decode cX12_number 40 = .ok (.iconst 2, 1) := by decide +kernel
theorem dX12_number_41 : decode cX12_number 41 = .ok (.invokevirtual 175, 3) := by decide +kernel
theorem dX12_number_44 : decode cX12_number 44 = .ok (.iload_n 1, 1) := by decide +kernel
theorem dX12_number_45 : decode cX12_number 45 = .ok (.ireturn, 1) := by decide +kernel
theorem dX12_number_46 : decode cX12_number 46 = .ok (.aload_n 0, 1) := by decide +kernel
theorem dX12_number_47 : decode cX12_number 47 = .ok (.getfield 141, 3) := by decide +kernel
theorem dX12_number_50 : decode cX12_number 50 = .ok (.istore_n 3, 1) := by decide +kernel
theorem dX12_number_51 : decode cX12_number 51 = .ok (.aload_n 0, 1) := by decide +kernel
theorem dX12_number_52 : decode cX12_number 52 = .ok (.invokevirtual 169, 3) := by decide +kernel
theorem dX12_number_55 : decode cX12_number 55 = .ok (.iload_n 3, 1) := by decide +kernel
theorem dX12_number_56 : decode cX12_number 56 = .ok (.ireturn, 1) := by decide +kernel
theorem dX12_number__0 : decode cX12_number_ 0 = .ok (.aload_n 0, 1) := by decide +kernel
theorem dX12_number__1 : decode cX12_number_ 1 = .ok (.lload_n 1, 1) := by decide +kernel
theorem dX12_number__2 : decode cX12_number_ 2 = .ok (.invokevirtual 178, 3) := by decide +kernel
theorem dX12_number__5 : decode cX12_number_ 5 = .ok (.aload_n 0, 1) := by decide +kernel
theorem dX12_number__6 : decode cX12_number_ 6 = .ok (.iload_n 3, 1) := by decide +kernel
theorem dX12_number__7 : decode cX12_number_ 7 = .ok (.iload 4, 2) := by decide +kernel
theorem dX12_number__9 : decode cX12_number_ 9 = .ok (.invokevirtual 182, 3) := by decide +kernel
theorem dX12_number__12 : decode cX12_number_ 12 = .ok (.ireturn, 1) := by decide +kernel
theorem dX12_ends_0 : decode cX12_ends 0 = .ok (.aload_n 0, 1) := by decide +kernel
theorem dX12_ends_1 : decode cX12_ends 1 = .ok (.getfield 148, 3) := by decide +kernel
theorem dX12_ends_4 : decode cX12_ends 4 = .ok (.iconst 3, 1) := by decide +kernel
theorem dX12_ends_5 : decode cX12_ends 5 = .ok (.if_icmp .eq 8, 3) := by decide +kernel
theorem dX12_ends_8 : decode cX12_ends 8 = .ok (.aload_n 0, 1) := by decide +kernel
theorem dX12_ends_9 : decode cX12_ends 9 = .ok (.iconst 1, 1) := by decide +kernel
theorem dX12_ends_10 : decode cX12_ends 10 = .ok (.invokevirtual 175, 3) := by decide +kernel
theorem dX12_ends_13 : decode cX12_ends 13 = .ok (.aload_n 0, 1) := by decide +kernel
theorem dX12_ends_14 : decode cX12_ends 14 = .ok (.getfield 159, 3) := by decide +kernel
theorem dX12_ends_17 : decode cX12_ends 17 = .ok (.ifCond .ne 7, 3) := by decide +kernel
theorem dX12_ends_20 : decode cX12_ends 20 = .ok (.aload_n 0, 1) := by decide +kernel
theorem dX12_ends_21 : decode cX12_ends 21 = .ok (.invokevirtual 169, 3) := by decide +kernel
theorem dX12_ends_24 : decode cX12_ends 24 = .ok (.return_, 1) := by decide +kernel
theorem dX12_begins_0 : decode cX12_begins 0 = .ok (.aload_n 0, 1) := by decide +kernel
theorem dX12_begins_1 : decode cX12_begins 1 = .ok (.iconst 0, 1) := by decide +kernel
theorem dX12_begins_2 : decode cX12_begins 2 = .ok (.putfield 159, 3) := by decide +kernel
theorem dX12_begins_5 : decode cX12_begins 5 = .ok (.aload_n 0, 1) := by decide +kernel
theorem dX12_begins_6 : decode cX12_begins 6 = .ok (.iconst (-1), 1) := by decide +kernel
theorem dX12_begins_7 : decode cX12_begins 7 = .ok (.putfield 162, 3) := by decide +kernel
theorem dX12_begins_10 : decode cX12_begins 10 = .ok (.aload_n 0, 1) := by decide +kernel
theorem dX12_begins_11 : decode cX12_begins 11 = .ok (.iconst 0, 1) := by decide +kernel
theorem dX12_begins_12 : decode cX12_begins 12 = .ok (.putfield 131, 3) := by decide +kernel
theorem dX12_begins_15 : decode cX12_begins 15 = .ok (.aload_n 0, 1) := by decide +kernel
theorem dX12_begins_16 : decode cX12_begins 16 = .ok (.invokevirtual 169, 3) := by decide +kernel
theorem dX12_begins_19 : decode cX12_begins 19 = .ok (.return_, 1) := by decide +kernel
theorem dX12_isOver_0 : decode cX12_isOver 0 = .ok (.aload_n 0, 1) := by decide +kernel
theorem dX12_isOver_1 : decode cX12_isOver 1 = .ok (.iconst 0, 1) := by decide +kernel
theorem dX12_isOver_2 : decode cX12_isOver 2 = .ok (.putfield 124, 3) := by decide +kernel
theorem dX12_isOver_5 : decode cX12_isOver 5 = .ok (.aload_n 0, 1) := by decide +kernel
theorem dX12_isOver_6 : decode cX12_isOver 6 = .ok (.aload_n 0, 1) := by decide +kernel
theorem dX12_isOver_7 : decode cX12_isOver 7 = .ok (.getfield 159, 3) := by decide +kernel
theorem dX12_isOver_10 : decode cX12_isOver 10 = .ok (.putfield 186, 3) := by decide +kernel
theorem dX12_isOver_13 : decode cX12_isOver 13 = .ok (.aload_n 0, 1) := by decide +kernel
theorem dX12_isOver_14 : decode cX12_isOver 14 = .ok (.aload_n 0, 1) := by decide +kernel
theorem dX12_isOver_15 : decode cX12_isOver 15 = .ok (.getfield 159, 3) := by decide +kernel
theorem dX12_isOver_18 : decode cX12_isOver 18 = .ok (.ifCond .ne 7, 3) := by decide +kernel
theorem dX12_isOver_21 : decode cX12_isOver 21 = .ok (.iconst (-1), 1) := by decide +kernel
theorem dX12_isOver_22 : decode cX12_isOver 22 = .ok (.goto 7, 3) := by decide +kernel
theorem dX12_isOver_25 : decode cX12_isOver 25 = .ok (.aload_n 0, 1) := by decide +kernel
theorem dX12_isOver_26 : decode cX12_isOver 26 = .ok (.getfield 162, 3) := by decide +kernel
theorem dX12_isOver_29 : decode cX12_isOver 29 = .ok (.putfield 27, 3) := by decide +kernel
theorem dX12_isOver_32 : decode cX12_isOver 32 = .ok (.return_, 1) := by decide +kernel
theorem dX12_fault_0 : decode cX12_fault 0 = .ok (.aload_n 0, 1) := by decide +kernel
theorem dX12_fault_1 : decode cX12_fault 1 = .ok (.iconst 0, 1) := by decide +kernel
theorem dX12_fault_2 : decode cX12_fault 2 = .ok (.putfield 107, 3) := by decide +kernel
theorem dX12_fault_5 : decode cX12_fault 5 = .ok (.iload_n 1, 1) := by decide +kernel
theorem dX12_fault_6 : decode cX12_fault 6 = .ok (.ifCond .ne 10, 3) := by decide +kernel
theorem dX12_fault_9 : decode cX12_fault 9 = .ok (.aload_n 0, 1) := by decide +kernel
theorem dX12_fault_10 : decode cX12_fault 10 = .ok (.getfield 186, 3) := by decide +kernel
theorem dX12_fault_13 : decode cX12_fault 13 = .ok (.goto 16, 3) := by decide +kernel
theorem dX12_fault_16 : decode cX12_fault 16 = .ok (.iload_n 1, 1) := by decide +kernel
theorem dX12_fault_17 : decode cX12_fault 17 = .ok (.iconst 1, 1) := by decide +kernel
theorem dX12_fault_18 : decode cX12_fault 18 = .ok (.if_icmp .ne 10, 3) := by decide +kernel
theorem dX12_fault_21 : decode cX12_fault 21 = .ok (.aload_n 0, 1) := by decide +kernel
theorem dX12_fault_22 : decode cX12_fault 22 = .ok (.getfield 27, 3) := by decide +kernel
theorem dX12_fault_25 : decode cX12_fault 25 = .ok (.goto 4, 3) := by decide +kernel
theorem dX12_fault_28 : decode cX12_fault 28 = .ok (.iconst (-1), 1) := by decide +kernel
theorem dX12_fault_29 : decode cX12_fault 29 = .ok (.ireturn, 1) := by decide +kernel
theorem dX12_hasRead_0 : decode cX12_hasRead 0 = .ok (.aload_n 0, 1) := by decide +kernel
theorem dX12_hasRead_1 : decode cX12_hasRead 1 = .ok (.getfield 34, 3) := by decide +kernel
theorem dX12_hasRead_4 : decode cX12_hasRead 4 = .ok (.bipush 20, 2) := by decide +kernel
theorem dX12_hasRead_6 : decode cX12_hasRead 6 = .ok (.iload_n 1, 1) := by decide +kernel
theorem dX12_hasRead_7 : decode cX12_hasRead 7 = .ok (.iadd, 1) := by decide +kernel
theorem dX12_hasRead_8 : decode cX12_hasRead 8 = .ok (.iaload, 1) := by decide +kernel
theorem dX12_hasRead_9 : decode cX12_hasRead 9 = .ok (.ireturn, 1) := by decide +kernel
theorem dX12_personHere_0 : decode cX12_personHere 0 = .ok (.aload_n 0, 1) := by decide +kernel
theorem dX12_personHere_1 : decode cX12_personHere 1 = .ok (.iconst 0, 1) := by decide +kernel
theorem dX12_personHere_2 : decode cX12_personHere 2 = .ok (.aload_n 0, 1) := by decide +kernel
theorem dX12_personHere_3 : decode cX12_personHere 3 = .ok (.iconst 3, 1) := by decide +kernel
theorem dX12_personHere_4 : decode cX12_personHere 4 = .ok (.invokevirtual 189, 3) := by decide +kernel
theorem dX12_personHere_7 : decode cX12_personHere 7 = .ok (.iconst 1, 1) := by decide +kernel
theorem dX12_personHere_8 : decode cX12_personHere 8 = .ok (.isub, 1) := by decide +kernel
theorem dX12_personHere_9 : decode cX12_personHere 9 = .ok (.invokevirtual 182, 3) := by decide +kernel
theorem dX12_personHere_12 : decode cX12_personHere 12 = .ok (.ireturn, 1) := by decide +kernel
theorem dX12_yearHere_0 : decode cX12_yearHere 0 = .ok (.aload_n 0, 1) := by decide +kernel
theorem dX12_yearHere_1 : decode cX12_yearHere 1 = .ok (.iconst 0, 1) := by decide +kernel
theorem dX12_yearHere_2 : decode cX12_yearHere 2 = .ok (.aload_n 0, 1) := by decide +kernel
theorem dX12_yearHere_3 : decode cX12_yearHere 3 = .ok (.iconst 0, 1) := by decide +kernel
theorem dX12_yearHere_4 : decode cX12_yearHere 4 = .ok (.invokevirtual 189, 3) := by decide +kernel
theorem dX12_yearHere_7 : decode cX12_yearHere 7 = .ok (.iconst 1, 1) := by decide +kernel
theorem dX12_yearHere_8 : decode cX12_yearHere 8 = .ok (.isub, 1) := by decide +kernel
theorem dX12_yearHere_9 : decode cX12_yearHere 9 = .ok (.invokevirtual 182, 3) := by decide +kernel
theorem dX12_yearHere_12 : decode cX12_yearHere 12 = .ok (.ireturn, 1) := by decide +kernel
