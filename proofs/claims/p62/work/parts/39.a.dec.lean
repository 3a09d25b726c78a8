theorem dX8_readLand_0 : decode cX8_readLand 0 = .ok (.aload_n 0, 1) := by decide +kernel
theorem dX8_readLand_1 : decode cX8_readLand 1 = .ok (.ldc 110, 2) := by decide +kernel
theorem dX8_readLand_3 : decode cX8_readLand 3 = .ok (.invokevirtual 112, 3) := by decide +kernel
theorem dX8_readLand_6 : decode cX8_readLand 6 = .ok (.ifCond .eq 22, 3) := by decide +kernel
theorem dX8_readLand_9 : decode cX8_readLand 9 = .ok (.aload_n 0, 1) := by decide +kernel
theorem dX8_readLand_10 : decode cX8_readLand 10 = .ok (.ldc 115, 2) := by decide +kernel
theorem dX8_readLand_12 : decode cX8_readLand 12 = .ok (.invokevirtual 112, 3) := by decide +kernel
theorem dX8_readLand_15 : decode cX8_readLand 15 = .ok (.ifCond .eq 13, 3) := by decide +kernel
theorem dX8_readLand_18 : decode cX8_readLand 18 = .ok (.aload_n 0, 1) := by decide +kernel
theorem dX8_readLand_19 : decode cX8_readLand 19 = .ok (.iconst 1, 1) := by decide +kernel
theorem dX8_readLand_20 : decode cX8_readLand 20 = .ok (.bipush 40, 2) := by decide +kernel
theorem dX8_readLand_22 : decode cX8_readLand 22 = .ok (.invokevirtual 117, 3) := by decide +kernel
theorem dX8_readLand_25 : decode cX8_readLand 25 = .ok (.ifCond .ne 5, 3) := by decide +kernel
theorem dX8_readLand_28 : decode cX8_readLand 28 = .ok (.iconst 0, 1) := by decide +kernel
theorem dX8_readLand_29 : decode cX8_readLand 29 = .ok (.ireturn, 1) := by decide +kernel
theorem dX8_readLand_30 : decode cX8_readLand 30 = .ok (.aload_n 0, 1) := by decide +kernel
theorem dX8_readLand_31 : decode cX8_readLand 31 = .ok (.getfield 18, 3) := by decide +kernel
theorem dX8_readLand_34 : decode cX8_readLand 34 = .ok (.aload_n 0, 1) := by decide +kernel
theorem dX8_readLand_35 : decode cX8_readLand 35 = .ok (.getfield 120, 3) := by decide +kernel
theorem dX8_readLand_38 : decode cX8_readLand 38 = .ok (.putfield 123, 3) := by decide +kernel
theorem dX8_readLand_41 : decode cX8_readLand 41 = .ok (.aload_n 0, 1) := by decide +kernel
theorem dX8_readLand_42 : decode cX8_readLand 42 = .ok (.ldc 125, 2) := by decide +kernel
theorem dX8_readLand_44 : decode cX8_readLand 44 = .ok (.invokevirtual 112, 3) := by decide +kernel
theorem dX8_readLand_47 : decode cX8_readLand 47 = .ok (.ifCond .eq 13, 3) := by decide +kernel
theorem dX8_readLand_50 : decode cX8_readLand 50 = .ok (.aload_n 0, 1) := by decide +kernel
theorem dX8_readLand_51 : decode cX8_readLand 51 = .ok (.iconst 0, 1) := by decide +kernel
theorem dX8_readLand_52 : decode cX8_readLand 52 = .ok (.bipush 99, 2) := by decide +kernel
theorem dX8_readLand_54 : decode cX8_readLand 54 = .ok (.invokevirtual 117, 3) := by decide +kernel
theorem dX8_readLand_57 : decode cX8_readLand 57 = .ok (.ifCond .ne 5, 3) := by decide +kernel
theorem dX8_readLand_60 : decode cX8_readLand 60 = .ok (.iconst 0, 1) := by decide +kernel
theorem dX8_readLand_61 : decode cX8_readLand 61 = .ok (.ireturn, 1) := by decide +kernel
theorem dX8_readLand_62 : decode cX8_readLand 62 = .ok (.aload_n 0, 1) := by decide +kernel
theorem dX8_readLand_63 : decode cX8_readLand 63 = .ok (.getfield 18, 3) := by decide +kernel
theorem dX8_readLand_66 : decode cX8_readLand 66 = .ok (.aload_n 0, 1) := by decide +kernel
theorem dX8_readLand_67 : decode cX8_readLand 67 = .ok (.getfield 120, 3) := by decide +kernel
theorem dX8_readLand_70 : decode cX8_readLand 70 = .ok (.putfield 127, 3) := by decide +kernel
theorem dX8_readLand_73 : decode cX8_readLand 73 = .ok (.aload_n 0, 1) := by decide +kernel
theorem dX8_readLand_74 : decode cX8_readLand 74 = .ok (.ldc 129, 2) := by decide +kernel
theorem dX8_readLand_76 : decode cX8_readLand 76 = .ok (.invokevirtual 112, 3) := by decide +kernel
theorem dX8_readLand_79 : decode cX8_readLand 79 = .ok (.ifCond .eq 13, 3) := by decide +kernel
theorem dX8_readLand_82 : decode cX8_readLand 82 = .ok (.aload_n 0, 1) := by decide +kernel
theorem dX8_readLand_83 : decode cX8_readLand 83 = .ok (.iconst 0, 1) := by decide +kernel
theorem dX8_readLand_84 : decode cX8_readLand 84 = .ok (.bipush 99, 2) := by decide +kernel
theorem dX8_readLand_86 : decode cX8_readLand 86 = .ok (.invokevirtual 117, 3) := by decide +kernel
theorem dX8_readLand_89 : decode cX8_readLand 89 = .ok (.ifCond .ne 5, 3) := by decide +kernel
theorem dX8_readLand_92 : decode cX8_readLand 92 = .ok (.iconst 0, 1) := by decide +kernel
theorem dX8_readLand_93 : decode cX8_readLand 93 = .ok (.ireturn, 1) := by decide +kernel
theorem dX8_readLand_94 : decode cX8_readLand 94 = .ok (.aload_n 0, 1) := by decide +kernel
theorem dX8_readLand_95 : decode cX8_readLand 95 = .ok (.getfield 18, 3) := by decide +kernel
theorem dX8_readLand_98 : decode cX8_readLand 98 = .ok (.aload_n 0, 1) := by decide +kernel
theorem dX8_readLand_99 : decode cX8_readLand 99 = .ok (.getfield 120, 3) := by decide +kernel
theorem dX8_readLand_102 : decode cX8_readLand 102 = .ok (.putfield 131, 3) := by decide +kernel
theorem dX8_readLand_105 : decode cX8_readLand 105 = .ok (.iconst 1, 1) := by decide +kernel
theorem dX8_readLand_106 : decode cX8_readLand 106 = .ok (.ireturn, 1) := by decide +kernel
theorem dX8_readPerson_0 : decode cX8_readPerson 0 = .ok (.aload_n 0, 1) := by decide +kernel
theorem dX8_readPerson_1 : decode cX8_readPerson 1 = .ok (.getfield 18, 3) := by decide +kernel
theorem dX8_readPerson_4 : decode cX8_readPerson 4 = .ok (.getfield 66, 3) := by decide +kernel
theorem dX8_readPerson_7 : decode cX8_readPerson 7 = .ok (.bipush 10, 2) := by decide +kernel
theorem dX8_readPerson_9 : decode cX8_readPerson 9 = .ok (.if_icmp .lt 13, 3) := by decide +kernel
theorem dX8_readPerson_12 : decode cX8_readPerson 12 = .ok (.aload_n 0, 1) := by decide +kernel
theorem dX8_readPerson_13 : decode cX8_readPerson 13 = .ok (.iconst 3, 1) := by decide +kernel
theorem dX8_readPerson_14 : decode cX8_readPerson 14 = .ok (.aload_n 0, 1) := by decide +kernel
theorem dX8_readPerson_15 : decode cX8_readPerson 15 = .ok (.getfield 103, 3) := by decide +kernel
theorem dX8_readPerson_18 : decode cX8_readPerson 18 = .ok (.invokevirtual 106, 3) := by decide +kernel
theorem dX8_readPerson_21 : decode cX8_readPerson 21 = .ok (.ireturn, 1) := by decide +kernel
theorem dX8_readPerson_22 : decode cX8_readPerson 22 = .ok (.aload_n 0, 1) := by decide +kernel
theorem dX8_readPerson_23 : decode cX8_readPerson 23 = .ok (.invokevirtual 38, 3) := by decide +kernel
theorem dX8_readPerson_26 : decode cX8_readPerson 26 = .ok (.aload_n 0, 1) := by decide +kernel
theorem dX8_readPerson_27 : decode cX8_readPerson 27 = .ok (.ldc 133, 2) := by decide +kernel
theorem dX8_readPerson_29 : decode cX8_readPerson 29 = .ok (.invokevirtual 112, 3) := by decide +kernel
theorem dX8_readPerson_32 : decode cX8_readPerson 32 = .ok (.ifCond .eq 13, 3) := by decide +kernel
theorem dX8_readPerson_35 : decode cX8_readPerson 35 = .ok (.aload_n 0, 1) := by decide +kernel
theorem dX8_readPerson_36 : decode cX8_readPerson 36 = .ok (.iconst 0, 1) := by decide +kernel
theorem dX8_readPerson_37 : decode cX8_readPerson 37 = .ok (.bipush 15, 2) := by decide +kernel
theorem dX8_readPerson_39 : decode cX8_readPerson 39 = .ok (.invokevirtual 117, 3) := by decide +kernel
theorem dX8_readPerson_42 : decode cX8_readPerson 42 = .ok (.ifCond .ne 5, 3) := by decide +kernel
theorem dX8_readPerson_45 : decode cX8_readPerson 45 = .ok (.iconst 0, 1) := by decide +kernel
theorem dX8_readPerson_46 : decode cX8_readPerson 46 = .ok (.ireturn, 1) := by decide +kernel
theorem dX8_readPerson_47 : decode cX8_readPerson 47 = .ok (.aload_n 0, 1) := by decide +kernel
theorem dX8_readPerson_48 : decode cX8_readPerson 48 = .ok (.getfield 18, 3) := by decide +kernel
theorem dX8_readPerson_51 : decode cX8_readPerson 51 = .ok (.aload_n 0, 1) := by decide +kernel
theorem dX8_readPerson_52 : decode cX8_readPerson 52 = .ok (.getfield 120, 3) := by decide +kernel
theorem dX8_readPerson_55 : decode cX8_readPerson 55 = .ok (.invokevirtual 135, 3) := by decide +kernel
theorem dX8_readPerson_58 : decode cX8_readPerson 58 = .ok (.iconst 1, 1) := by decide +kernel
theorem dX8_readPerson_59 : decode cX8_readPerson 59 = .ok (.ireturn, 1) := by decide +kernel
theorem dX8_takeNumber_0 : decode cX8_takeNumber 0 = .ok (.aload_n 0, 1) := by decide +kernel
theorem dX8_takeNumber_1 : decode cX8_takeNumber 1 = .ok (.getfield 41, 3) := by decide +kernel
theorem dX8_takeNumber_4 : decode cX8_takeNumber 4 = .ok (.iconst 2, 1) := by decide +kernel
theorem dX8_takeNumber_5 : decode cX8_takeNumber 5 = .ok (.if_icmp .eq 13, 3) := by decide +kernel
theorem dX8_takeNumber_8 : decode cX8_takeNumber 8 = .ok (.aload_n 0, 1) := by decide +kernel
theorem dX8_takeNumber_9 : decode cX8_takeNumber 9 = .ok (.iconst 1, 1) := by decide +kernel
theorem dX8_takeNumber_10 : decode cX8_takeNumber 10 = .ok (.aload_n 0, 1) := by decide +kernel
theorem dX8_takeNumber_11 : decode cX8_takeNumber 11 = .ok (.getfield 103, 3) := by decide +kernel
theorem dX8_takeNumber_14 : decode cX8_takeNumber 14 = .ok (.invokevirtual 106, 3) := by decide +kernel
theorem dX8_takeNumber_17 : decode cX8_takeNumber 17 = .ok (.ireturn, 1) := by decide +kernel
theorem dX8_takeNumber_18 : decode cX8_takeNumber 18 = .ok (.aload_n 0, 1) := by decide +kernel
theorem dX8_takeNumber_19 : decode cX8_takeNumber 19 = .ok (.aload_n 0, 1) := by decide +kernel
theorem dX8_takeNumber_20 : decode cX8_takeNumber 20 = .ok (.invokevirtual 173, 3) := by decide +kernel
theorem dX8_takeNumber_23 : decode cX8_takeNumber 23 = .ok (.putfield 120, 3) := by decide +kernel
theorem dX8_takeNumber_26 : decode cX8_takeNumber 26 = .ok (.aload_n 0, 1) := by decide +kernel
theorem dX8_takeNumber_27 : decode cX8_takeNumber 27 = .ok (.aload_n 0, 1) := by decide +kernel
theorem dX8_takeNumber_28 : decode cX8_takeNumber 28 = .ok (.getfield 103, 3) := by decide +kernel
theorem dX8_takeNumber_31 : decode cX8_takeNumber 31 = .ok (.putfield 154, 3) := by decide +kernel
theorem dX8_takeNumber_34 : decode cX8_takeNumber 34 = .ok (.aload_n 0, 1) := by decide +kernel
theorem dX8_takeNumber_35 : decode cX8_takeNumber 35 = .ok (.getfield 120, 3) := by decide +kernel
theorem dX8_takeNumber_38 : decode cX8_takeNumber 38 = .ok (.iload_n 1, 1) := by decide +kernel
theorem dX8_takeNumber_39 : decode cX8_takeNumber 39 = .ok (.if_icmp .lt 11, 3) := by decide +kernel
theorem dX8_takeNumber_42 : decode cX8_takeNumber 42 = .ok (.aload_n 0, 1) := by decide +kernel
theorem dX8_takeNumber_43 : decode cX8_takeNumber 43 = .ok (.getfield 120, 3) := by decide +kernel
theorem dX8_takeNumber_46 : decode cX8_takeNumber 46 = .ok (.iload_n 2, 1) := by decide +kernel
theorem dX8_takeNumber_47 : decode cX8_takeNumber 47 = .ok (.if_icmp .le 13, 3) := by decide +kernel
theorem dX8_takeNumber_50 : decode cX8_takeNumber 50 = .ok (.aload_n 0, 1) := by decide +kernel
theorem dX8_takeNumber_51 : decode cX8_takeNumber 51 = .ok (.iconst 2, 1) := by decide +kernel
theorem dX8_takeNumber_52 : decode cX8_takeNumber 52 = .ok (.aload_n 0, 1) := by decide +kernel
theorem dX8_takeNumber_53 : decode cX8_takeNumber 53 = .ok (.getfield 103, 3) := by decide +kernel
theorem dX8_takeNumber_56 : decode cX8_takeNumber 56 = .ok (.invokevirtual 106, 3) := by decide +kernel
theorem dX8_takeNumber_59 : decode cX8_takeNumber 59 = .ok (.ireturn, 1) := by decide +kernel
theorem dX8_takeNumber_60 : decode cX8_takeNumber 60 = .ok (.aload_n 0, 1) := by decide +kernel
theorem dX8_takeNumber_61 : decode cX8_takeNumber 61 = .ok (.invokevirtual 38, 3) := by decide +kernel
theorem dX8_takeNumber_64 : decode cX8_takeNumber 64 = .ok (.iconst 1, 1) := by decide +kernel
theorem dX8_takeNumber_65 : decode cX8_takeNumber 65 = .ok (.ireturn, 1) := by decide +kernel
theorem dX8_takeWord_0 : decode cX8_takeWord 0 = .ok (.aload_n 0, 1) := by decide +kernel
theorem dX8_takeWord_1 : decode cX8_takeWord 1 = .ok (.aload_n 1, 1) := by decide +kernel
theorem dX8_takeWord_2 : decode cX8_takeWord 2 = .ok (.invokevirtual 59, 3) := by decide +kernel
theorem dX8_takeWord_5 : decode cX8_takeWord 5 = .ok (.ifCond .ne 13, 3) := by decide +kernel
theorem dX8_takeWord_8 : decode cX8_takeWord 8 = .ok (.aload_n 0, 1) := by decide +kernel
theorem dX8_takeWord_9 : decode cX8_takeWord 9 = .ok (.iconst 1, 1) := by decide +kernel
theorem dX8_takeWord_10 : decode cX8_takeWord 10 = .ok (.aload_n 0, 1) := by decide +kernel
theorem dX8_takeWord_11 : decode cX8_takeWord 11 = .ok (.getfield 103, 3) := by decide +kernel
theorem dX8_takeWord_14 : decode cX8_takeWord 14 = .ok (.invokevirtual 106, 3) := by decide +kernel
theorem dX8_takeWord_17 : decode cX8_takeWord 17 = .ok (.ireturn, 1) := by decide +kernel
theorem dX8_takeWord_18 : decode cX8_takeWord 18 = .ok (.aload_n 0, 1) := by decide +kernel
theorem dX8_takeWord_19 : decode cX8_takeWord 19 = .ok (.invokevirtual 38, 3) := by decide +kernel
theorem dX8_takeWord_22 : decode cX8_takeWord 22 = .ok (.iconst 1, 1) := by decide +kernel
theorem dX8_takeWord_23 : decode cX8_takeWord 23 = .ok (.ireturn, 1) := by decide +kernel
theorem dX8_takeSign_0 : decode cX8_takeSign 0 = .ok (.aload_n 0, 1) := by decide +kernel
theorem dX8_takeSign_1 : decode cX8_takeSign 1 = .ok (.getfield 41, 3) := by decide +kernel
theorem dX8_takeSign_4 : decode cX8_takeSign 4 = .ok (.iconst 3, 1) := by decide +kernel
theorem dX8_takeSign_5 : decode cX8_takeSign 5 = .ok (.if_icmp .eq 13, 3) := by decide +kernel
theorem dX8_takeSign_8 : decode cX8_takeSign 8 = .ok (.aload_n 0, 1) := by decide +kernel
theorem dX8_takeSign_9 : decode cX8_takeSign 9 = .ok (.iconst 1, 1) := by decide +kernel
theorem dX8_takeSign_10 : decode cX8_takeSign 10 = .ok (.aload_n 0, 1) := by decide +kernel
theorem dX8_takeSign_11 : decode cX8_takeSign 11 = .ok (.getfield 103, 3) := by decide +kernel
theorem dX8_takeSign_14 : decode cX8_takeSign 14 = .ok (.invokevirtual 106, 3) := by decide +kernel
theorem dX8_takeSign_17 : decode cX8_takeSign 17 = .ok (.ireturn, 1) := by decide +kernel
theorem dX8_takeSign_18 : decode cX8_takeSign 18 = .ok (.aload_n 0, 1) := by decide +kernel
theorem dX8_takeSign_19 : decode cX8_takeSign 19 = .ok (.invokevirtual 38, 3) := by decide +kernel
theorem dX8_takeSign_22 : decode cX8_takeSign 22 = .ok (.iconst 1, 1) := by decide +kernel
theorem dX8_takeSign_23 : decode cX8_takeSign 23 = .ok (.ireturn, 1) := by decide +kernel
theorem dX8_isWord_0 : decode cX8_isWord 0 = .ok (.aload_n 0, 1) := by decide +kernel
theorem dX8_isWord_1 : decode cX8_isWord 1 = .ok (.getfield 41, 3) := by decide +kernel
theorem dX8_isWord_4 : decode cX8_isWord 4 = .ok (.iconst 1, 1) := by decide +kernel
theorem dX8_isWord_5 : decode cX8_isWord 5 = .ok (.if_icmp .ne 19, 3) := by decide +kernel
theorem dX8_isWord_8 : decode cX8_isWord 8 = .ok (.aload_n 0, 1) := by decide +kernel
theorem dX8_isWord_9 : decode cX8_isWord 9 = .ok (.getfield 35, 3) := by decide +kernel
theorem dX8_isWord_12 : decode cX8_isWord 12 = .ok (.aload_n 0, 1) := by decide +kernel
theorem dX8_isWord_13 : decode cX8_isWord 13 = .ok (.getfield 103, 3) := by decide +kernel
theorem dX8_isWord_16 : decode cX8_isWord 16 = .ok (.isub, 1) := by decide +kernel
theorem dX8_isWord_17 : decode cX8_isWord 17 = .ok (.aload_n 1, 1) := by decide +kernel
theorem dX8_isWord_18 : decode cX8_isWord 18 = .ok (.invokevirtual 177, 3) := by decide +kernel
theorem dX8_isWord_21 : decode cX8_isWord 21 = .ok (.if_icmp .eq 5, 3) := by decide +kernel
theorem dX8_isWord_24 : decode cX8_isWord 24 = .ok (.iconst 0, 1) := by decide +kernel
theorem dX8_isWord_25 : decode cX8_isWord 25 = .ok (.ireturn, 1) := by decide +kernel
theorem dX8_isWord_26 : decode cX8_isWord 26 = .ok (.iconst 0, 1) := by decide +kernel
theorem dX8_isWord_27 : decode cX8_isWord 27 = .ok (.istore_n 2, 1) := by decide +kernel
theorem dX8_isWord_28 : decode cX8_isWord 28 = .ok (.iload_n 2, 1) := by decide +kernel
theorem dX8_isWord_29 : decode cX8_isWord 29 = .ok (.aload_n 1, 1) := by decide +kernel
theorem dX8_isWord_30 : decode cX8_isWord 30 = .ok (.invokevirtual 177, 3) := by decide +kernel
theorem dX8_isWord_33 : decode cX8_isWord 33 = .ok (.if_icmp .ge 29, 3) := by decide +kernel
theorem dX8_isWord_36 : decode cX8_isWord 36 = .ok (.aload_n 0, 1) := by decide +kernel
theorem dX8_isWord_37 : decode cX8_isWord 37 = .ok (.aload_n 0, 1) := by decide +kernel
theorem dX8_isWord_38 : decode cX8_isWord 38 = .ok (.getfield 103, 3) := by decide +kernel
theorem dX8_isWord_41 : decode cX8_isWord 41 = .ok (.iload_n 2, 1) := by decide +kernel
theorem dX8_isWord_42 : decode cX8_isWord 42 = .ok (.iadd, 1) := by decide +kernel
theorem dX8_isWord_43 : decode cX8_isWord 43 = .ok (.invokevirtual 181, 3) := by decide +kernel
theorem dX8_isWord_46 : decode cX8_isWord 46 = .ok (.aload_n 1, 1) := by decide +kernel
theorem dX8_isWord_47 : decode cX8_isWord 47 = .ok (.iload_n 2, 1) := by decide +kernel
theorem dX8_isWord_48 : decode cX8_isWord 48 = .ok (.invokevirtual 185, 3) := by decide +kernel
theorem dX8_isWord_51 : decode cX8_isWord 51 = .ok (.if_icmp .eq 5, 3) := by decide +kernel
theorem dX8_isWord_54 : decode cX8_isWord 54 = .ok (.iconst 0, 1) := by decide +kernel
theorem dX8_isWord_55 : decode cX8_isWord 55 = .ok (.ireturn, 1) := by decide +kernel
theorem dX8_isWord_56 : decode cX8_isWord 56 = .ok (.iinc 2 1, 3) := by decide +kernel
theorem dX8_isWord_59 : decode cX8_isWord 59 = .ok (.goto (-31), 3) := by decide +kernel
theorem dX8_isWord_62 : decode cX8_isWord 62 = .ok (.iconst 1, 1) := by decide +kernel
theorem dX8_isWord_63 : decode cX8_isWord 63 = .ok (.ireturn, 1) := by decide +kernel
