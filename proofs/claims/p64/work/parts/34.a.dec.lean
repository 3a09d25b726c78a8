theorem dX8_readLand_0 : decode cX8_readLand 0 = .ok (.aload_n 0, 1) := by decide +kernel
theorem dX8_readLand_1 : decode cX8_readLand 1 = .ok (.ldc 110, 2) := by decide +kernel
theorem dX8_readLand_3 : decode cX8_readLand 3 = .ok (.invokevirtual 112, 3) := by decide +kernel
theorem dX8_readLand_6 : decode cX8_readLand 6 = .ok (.ifCond .eq 22, 3) := by decide +kernel
theorem dX8_readLand_9 : decode cX8_readLand 9 = .ok (.aload_n 0, 1) := by decide +kernel
theorem dX8_readLand_10 : decode cX8_readLand 10 = .ok (.ldc 115, 2) := by decide +kernel
theorem dX8_readLand_12 : decode cX8_readLand 12 = .ok (.invokevirtual 112, 3) := by decide +kernel
theorem dX8_readLand_15 : decode cX8_readLand 15 = .ok (.ifCond .eq 13, 3) := by decide +kernel
theorem dX8_readLand_18 : decode cX8_readLand 18 = .ok (.aload_n 0, 1) := by decide +kernel
theorem dX8_readLand_19 : decode cX8_readLand 19 = .ok (.iconst 1, 1) := by decide +kernel
theorem dX8_readLand_20 : decode cX8_readLand 20 = .ok (.bipush 40, 2) := by decide +kernel
theorem dX8_readLand_22 : decode cX8_readLand 22 = .ok (.invokevirtual 117, 3) := by decide +kernel
theorem dX8_readLand_25 : decode cX8_readLand 25 = .ok (.ifCond .ne 5, 3) := by decide +kernel
theorem dX8_readLand_28 : decode cX8_readLand 28 = .ok (.iconst 0, 1) := by decide +kernel
theorem dX8_readLand_29 : decode cX8_readLand 29 = .ok (.ireturn, 1) := by decide +kernel
theorem dX8_readLand_30 : decode cX8_readLand 30 = .ok (.aload_n 0, 1) := by decide +kernel
theorem dX8_readLand_31 : decode cX8_readLand 31 = .ok (.getfield 18, 3) := by decide +kernel
theorem dX8_readLand_34 : decode cX8_readLand 34 = .ok (.aload_n 0, 1) := by decide +kernel
theorem dX8_readLand_35 : decode cX8_readLand 35 = .ok (.getfield 120, 3) := by decide +kernel
theorem dX8_readLand_38 : decode cX8_readLand 38 = .ok (.putfield 123, 3) := by decide +kernel
theorem dX8_readLand_41 : decode cX8_readLand 41 = .ok (.aload_n 0, 1) := by decide +kernel
theorem dX8_readLand_42 : decode cX8_readLand 42 = .ok (.ldc 125, 2) := by decide +kernel
theorem dX8_readLand_44 : decode cX8_readLand 44 = .ok (.invokevirtual 112, 3) := by decide +kernel
theorem dX8_readLand_47 : decode cX8_readLand 47 = .ok (.ifCond .eq 13, 3) := by decide +kernel
theorem dX8_readLand_50 : decode cX8_readLand 50 = .ok (.aload_n 0, 1) := by decide +kernel
theorem dX8_readLand_51 : decode cX8_readLand 51 = .ok (.iconst 0, 1) := by decide +kernel
theorem dX8_readLand_52 : decode cX8_readLand 52 = .ok (.bipush 99, 2) := by decide +kernel
theorem dX8_readLand_54 : decode cX8_readLand 54 = .ok (.invokevirtual 117, 3) := by decide +kernel
theorem dX8_readLand_57 : decode cX8_readLand 57 = .ok (.ifCond .ne 5, 3) := by decide +kernel
theorem dX8_readLand_60 : decode cX8_readLand 60 = .ok (.iconst 0, 1) := by decide +kernel
theorem dX8_readLand_61 : decode cX8_readLand 61 = .ok (.ireturn, 1) := by decide +kernel
theorem dX8_readLand_62 : decode cX8_readLand 62 = .ok (.aload_n 0, 1) := by decide +kernel
theorem dX8_readLand_63 : decode cX8_readLand 63 = .ok (.getfield 18, 3) := by decide +kernel
theorem dX8_readLand_66 : decode cX8_readLand 66 = .ok (.aload_n 0, 1) := by decide +kernel
theorem dX8_readLand_67 : decode cX8_readLand 67 = .ok (.getfield 120, 3) := by decide +kernel
theorem dX8_readLand_70 : decode cX8_readLand 70 = .ok (.putfield 127, 3) := by decide +kernel
theorem dX8_readLand_73 : decode cX8_readLand 73 = .ok (.aload_n 0, 1) := by decide +kernel
theorem dX8_readLand_74 : decode cX8_readLand 74 = .ok (.ldc 129, 2) := by decide +kernel
theorem dX8_readLand_76 : decode cX8_readLand 76 = .ok (.invokevirtual 112, 3) := by decide +kernel
theorem dX8_readLand_79 : decode cX8_readLand 79 = .ok (.ifCond .eq 13, 3) := by decide +kernel
theorem dX8_readLand_82 : decode cX8_readLand 82 = .ok (.aload_n 0, 1) := by decide +kernel
theorem dX8_readLand_83 : decode cX8_readLand 83 = .ok (.iconst 0, 1) := by decide +kernel
theorem dX8_readLand_84 : decode cX8_readLand 84 = .ok (.bipush 99, 2) := by decide +kernel
theorem dX8_readLand_86 : decode cX8_readLand 86 = .ok (.invokevirtual 117, 3) := by decide +kernel
theorem dX8_readLand_89 : decode cX8_readLand 89 = .ok (.ifCond .ne 5, 3) := by decide +kernel
theorem dX8_readLand_92 : decode cX8_readLand 92 = .ok (.iconst 0, 1) := by decide +kernel
theorem dX8_readLand_93 : decode cX8_readLand 93 = .ok (.ireturn, 1) := by decide +kernel
theorem dX8_readLand_94 : decode cX8_readLand 94 = .ok (.aload_n 0, 1) := by decide +kernel
theorem dX8_readLand_95 : decode cX8_readLand 95 = .ok (.getfield 18, 3) := by decide +kernel
theorem dX8_readLand_98 : decode cX8_readLand 98 = .ok (.aload_n 0, 1) := by decide +kernel
theorem dX8_readLand_99 : decode cX8_readLand 99 = .ok (.getfield 120, 3) := by decide +kernel
theorem dX8_readLand_102 : decode cX8_readLand 102 = .ok (.putfield 131, 3) := by decide +kernel
theorem dX8_readLand_105 : decode cX8_readLand 105 = .ok (.iconst 1, 1) := by decide +kernel
theorem dX8_readLand_106 : decode cX8_readLand 106 = .ok (.ireturn, 1) := by decide +kernel
theorem dX8_readPerson_0 : decode cX8_readPerson 0 = .ok (.aload_n 0, 1) := by decide +kernel
theorem dX8_readPerson_1 : decode cX8_readPerson 1 = .ok (.getfield 18, 3) := by decide +kernel
theorem dX8_readPerson_4 : decode cX8_readPerson 4 = .ok (.getfield 66, 3) := by decide +kernel
theorem dX8_readPerson_7 : decode cX8_readPerson 7 = .ok (.bipush 10, 2) := by decide +kernel
theorem dX8_readPerson_9 : decode cX8_readPerson 9 = .ok (.if_icmp .lt 13, 3) := by decide +kernel
theorem dX8_readPerson_12 : decode cX8_readPerson 12 = .ok (.aload_n 0, 1) := by decide +kernel
theorem dX8_readPerson_13 : decode cX8_readPerson 13 = .ok (.iconst 3, 1) := by decide +kernel
theorem dX8_readPerson_14 : decode cX8_readPerson 14 = .ok (.aload_n 0, 1) := by decide +kernel
theorem dX8_readPerson_15 : decode cX8_readPerson 15 = .ok (.getfield 103, 3) := by decide +kernel
theorem dX8_readPerson_18 : decode cX8_readPerson 18 = .ok (.invokevirtual 106, 3) := by decide +kernel
theorem dX8_readPerson_21 : decode cX8_readPerson 21 = .ok (.ireturn, 1) := by decide +kernel
theorem dX8_readPerson_22 : decode cX8_readPerson 22 = .ok (.aload_n 0, 1) := by decide +kernel
theorem dX8_readPerson_23 : decode cX8_readPerson 23 = .ok (.invokevirtual 38, 3) := by decide +kernel
theorem dX8_readPerson_26 : decode cX8_readPerson 26 = .ok (.aload_n 0, 1) := by decide +kernel
theorem dX8_readPerson_27 : decode cX8_readPerson 27 = .ok (.ldc 133, 2) := by decide +kernel
theorem dX8_readPerson_29 : decode cX8_readPerson 29 = .ok (.invokevirtual 112, 3) := by decide +kernel
theorem dX8_readPerson_32 : decode cX8_readPerson 32 = .ok (.ifCond .eq 13, 3) := by decide +kernel
theorem dX8_readPerson_35 : decode cX8_readPerson 35 = .ok (.aload_n 0, 1) := by decide +kernel
theorem dX8_readPerson_36 : decode cX8_readPerson 36 = .ok (.iconst 0, 1) := by decide +kernel
theorem dX8_readPerson_37 : decode cX8_readPerson 37 = .ok (.bipush 15, 2) := by decide +kernel
theorem dX8_readPerson_39 : decode cX8_readPerson 39 = .ok (.invokevirtual 117, 3) := by decide +kernel
theorem dX8_readPerson_42 : decode cX8_readPerson 42 = .ok (.ifCond .ne 5, 3) := by decide +kernel
theorem dX8_readPerson_45 : decode cX8_readPerson 45 = .ok (.iconst 0, 1) := by decide +kernel
theorem dX8_readPerson_46 : decode cX8_readPerson 46 = .ok (.ireturn, 1) := by decide +kernel
theorem dX8_readPerson_47 : decode cX8_readPerson 47 = .ok (.aload_n 0, 1) := by decide +kernel
theorem dX8_readPerson_48 : decode cX8_readPerson 48 = .ok (.getfield 18, 3) := by decide +kernel
theorem dX8_readPerson_51 : decode cX8_readPerson 51 = .ok (.aload_n 0, 1) := by decide +kernel
theorem dX8_readPerson_52 : decode cX8_readPerson 52 = .ok (.getfield 120, 3) := by decide +kernel
theorem dX8_readPerson_55 : decode cX8_readPerson 55 = .ok (.invokevirtual 135, 3) := by decide +kernel
theorem dX8_readPerson_58 : decode cX8_readPerson 58 = .ok (.iconst 1, 1) := by decide +kernel
theorem dX8_readPerson_59 : decode cX8_readPerson 59 = .ok (.ireturn, 1) := by decide +kernel
theorem dX8_readMarks_0 : decode cX8_readMarks 0 = .ok (.iconst 0, 1) := by decide +kernel
theorem dX8_readMarks_1 : decode cX8_readMarks 1 = .ok (.istore_n 2, 1) := by decide +kernel
theorem dX8_readMarks_2 : decode cX8_readMarks 2 = .ok (.iconst 0, 1) := by decide +kernel
theorem dX8_readMarks_3 : decode cX8_readMarks 3 = .ok (.istore_n 3, 1) := by decide +kernel
theorem dX8_readMarks_4 : decode cX8_readMarks 4 = .ok (.iconst 0, 1) := by decide +kernel
theorem dX8_readMarks_5 : decode cX8_readMarks 5 = .ok (.istore 4, 2) := by decide +kernel
theorem dX8_readMarks_7 : decode cX8_readMarks 7 = .ok (.iload 4, 2) := by decide +kernel
theorem dX8_readMarks_9 : decode cX8_readMarks 9 = .ok (.iconst 2, 1) := by decide +kernel
theorem dX8_readMarks_10 : decode cX8_readMarks 10 = .ok (.if_icmp .ge 85, 3) := by decide +kernel
theorem dX8_readMarks_13 : decode cX8_readMarks 13 = .ok (.iload_n 2, 1) := by decide +kernel
theorem dX8_readMarks_14 : decode cX8_readMarks 14 = .ok (.ifCond .ne 31, 3) := by decide +kernel
theorem dX8_readMarks_17 : decode cX8_readMarks 17 = .ok (.aload_n 0, 1) := by decide +kernel
theorem dX8_readMarks_18 : decode cX8_readMarks 18 = .ok (.ldc 139, 2) := by decide +kernel
theorem dX8_readMarks_20 : decode cX8_readMarks 20 = .ok (.invokevirtual 59, 3) := by decide +kernel
theorem dX8_readMarks_23 : decode cX8_readMarks 23 = .ok (.ifCond .eq 22, 3) := by decide +kernel
theorem dX8_readMarks_26 : decode cX8_readMarks 26 = .ok (.aload_n 0, 1) := by decide +kernel
theorem dX8_readMarks_27 : decode cX8_readMarks 27 = .ok (.invokevirtual 38, 3) := by decide +kernel
theorem dX8_readMarks_30 : decode cX8_readMarks 30 = .ok (.aload_n 0, 1) := by decide +kernel
theorem dX8_readMarks_31 : decode cX8_readMarks 31 = .ok (.getfield 18, 3) := by decide +kernel
theorem dX8_readMarks_34 : decode cX8_readMarks 34 = .ok (.getfield 141, 3) := by decide +kernel
theorem dX8_readMarks_37 : decode cX8_readMarks 37 = .ok (.iload_n 1, 1) := by decide +kernel
theorem dX8_readMarks_38 : decode cX8_readMarks 38 = .ok (.iconst 1, 1) := by decide +kernel
theorem dX8_readMarks_39 : decode cX8_readMarks 39 = .ok (.iastore, 1) := by decide +kernel
theorem dX8_readMarks_40 : decode cX8_readMarks 40 = .ok (.iconst 1, 1) := by decide +kernel
theorem dX8_readMarks_41 : decode cX8_readMarks 41 = .ok (.istore_n 2, 1) := by decide +kernel
theorem dX8_readMarks_42 : decode cX8_readMarks 42 = .ok (.goto 47, 3) := by decide +kernel
theorem dX8_readMarks_45 : decode cX8_readMarks 45 = .ok (.iload_n 3, 1) := by decide +kernel
theorem dX8_readMarks_46 : decode cX8_readMarks 46 = .ok (.ifCond .ne 43, 3) := by decide +kernel
theorem dX8_readMarks_49 : decode cX8_readMarks 49 = .ok (.aload_n 0, 1) := by decide +kernel
theorem dX8_readMarks_50 : decode cX8_readMarks 50 = .ok (.ldc 143, 2) := by decide +kernel
theorem dX8_readMarks_52 : decode cX8_readMarks 52 = .ok (.invokevirtual 59, 3) := by decide +kernel
theorem dX8_readMarks_55 : decode cX8_readMarks 55 = .ok (.ifCond .eq 34, 3) := by decide +kernel
theorem dX8_readMarks_58 : decode cX8_readMarks 58 = .ok (.aload_n 0, 1) := by decide +kernel
theorem dX8_readMarks_59 : decode cX8_readMarks 59 = .ok (.invokevirtual 38, 3) := by decide +kernel
theorem dX8_readMarks_62 : decode cX8_readMarks 62 = .ok (.aload_n 0, 1) := by decide +kernel
theorem dX8_readMarks_63 : decode cX8_readMarks 63 = .ok (.iconst 0, 1) := by decide +kernel
theorem dX8_readMarks_64 : decode cX8_readMarks 64 = .ok (.bipush 50, 2) := by decide +kernel
theorem dX8_readMarks_66 : decode cX8_readMarks 66 = .ok (.invokevirtual 117, 3) := by decide +kernel
theorem dX8_readMarks_69 : decode cX8_readMarks 69 = .ok (.ifCond .ne 5, 3) := by decide +kernel
theorem dX8_readMarks_72 : decode cX8_readMarks 72 = .ok (.iconst 0, 1) := by decide +kernel
theorem dX8_readMarks_73 : decode cX8_readMarks 73 = .ok (.ireturn, 1) := by decide +kernel
theorem dX8_readMarks_74 : decode cX8_readMarks 74 = .ok (.aload_n 0, 1) := by decide +kernel
theorem dX8_readMarks_75 : decode cX8_readMarks 75 = .ok (.getfield 18, 3) := by decide +kernel
theorem dX8_readMarks_78 : decode cX8_readMarks 78 = .ok (.getfield 145, 3) := by decide +kernel
theorem dX8_readMarks_81 : decode cX8_readMarks 81 = .ok (.iload_n 1, 1) := by decide +kernel
theorem dX8_readMarks_82 : decode cX8_readMarks 82 = .ok (.aload_n 0, 1) := by decide +kernel
theorem dX8_readMarks_83 : decode cX8_readMarks 83 = .ok (.getfield 120, 3) := by decide +kernel
theorem dX8_readMarks_86 : decode cX8_readMarks 86 = .ok (.iastore, 1) := by decide +kernel
theorem dX8_readMarks_87 : decode cX8_readMarks 87 = .ok (.iconst 1, 1) := by decide +kernel
theorem dX8_readMarks_88 : decode cX8_readMarks 88 = .ok (.istore_n 3, 1) := by decide +kernel
theorem dX8_readMarks_89 : decode cX8_readMarks 89 = .ok (.iinc 4 1, 3) := by decide +kernel
theorem dX8_readMarks_92 : decode cX8_readMarks 92 = .ok (.goto (-85), 3) := by decide +kernel
theorem dX8_readMarks_95 : decode cX8_readMarks 95 = .ok (.iconst 1, 1) := by decide +kernel
theorem dX8_readMarks_96 : decode cX8_readMarks 96 = .ok (.ireturn, 1) := by decide +kernel
theorem dX8_takeNumber_0 : decode cX8_takeNumber 0 = .ok (.aload_n 0, 1) := by decide +kernel
theorem dX8_takeNumber_1 : decode cX8_takeNumber 1 = .ok (.getfield 41, 3) := by decide +kernel
theorem dX8_takeNumber_4 : decode cX8_takeNumber 4 = .ok (.iconst 2, 1) := by decide +kernel
theorem dX8_takeNumber_5 : decode cX8_takeNumber 5 = .ok (.if_icmp .eq 13, 3) := by decide +kernel
theorem dX8_takeNumber_8 : decode cX8_takeNumber 8 = .ok (.aload_n 0, 1) := by decide +kernel
theorem dX8_takeNumber_9 : decode cX8_takeNumber 9 = .ok (.iconst 1, 1) := by decide +kernel
theorem dX8_takeNumber_10 : decode cX8_takeNumber 10 = .ok (.aload_n 0, 1) := by decide +kernel
theorem dX8_takeNumber_11 : decode cX8_takeNumber 11 = .ok (.getfield 103, 3) := by decide +kernel
theorem dX8_takeNumber_14 : decode cX8_takeNumber 14 = .ok (.invokevirtual 106, 3) := by decide +kernel
theorem dX8_takeNumber_17 : decode cX8_takeNumber 17 = .ok (.ireturn, 1) := by decide +kernel
theorem dX8_takeNumber_18 : decode cX8_takeNumber 18 = .ok (.aload_n 0, 1) := by decide +kernel
theorem dX8_takeNumber_19 : decode cX8_takeNumber 19 = .ok (.aload_n 0, 1) := by decide +kernel
theorem dX8_takeNumber_20 : decode cX8_takeNumber 20 = .ok (.invokevirtual 173, 3) := by decide +kernel
theorem dX8_takeNumber_23 : decode cX8_takeNumber 23 = .ok (.putfield 120, 3) := by decide +kernel
theorem dX8_takeNumber_26 : decode cX8_takeNumber 26 = .ok (.aload_n 0, 1) := by decide +kernel
theorem dX8_takeNumber_27 : decode cX8_takeNumber 27 = .ok (.aload_n 0, 1) := by decide +kernel
theorem dX8_takeNumber_28 : decode cX8_takeNumber 28 = .ok (.getfield 103, 3) := by decide +kernel
theorem dX8_takeNumber_31 : decode cX8_takeNumber 31 = .ok (.putfield 154, 3) := by decide +kernel
theorem dX8_takeNumber_34 : decode cX8_takeNumber 34 = .ok (.aload_n 0, 1) := by decide +kernel
theorem dX8_takeNumber_35 : decode cX8_takeNumber 35 = .ok (.getfield 120, 3) := by decide +kernel
theorem dX8_takeNumber_38 : decode cX8_takeNumber 38 = .ok (.iload_n 1, 1) := by decide +kernel
theorem dX8_takeNumber_39 : decode cX8_takeNumber 39 = .ok (.if_icmp .lt 11, 3) := by decide +kernel
theorem dX8_takeNumber_42 : decode cX8_takeNumber 42 = .ok (.aload_n 0, 1) := by decide +kernel
theorem dX8_takeNumber_43 : decode cX8_takeNumber 43 = .ok (.getfield 120, 3) := by decide +kernel
theorem dX8_takeNumber_46 : decode cX8_takeNumber 46 = .ok (.iload_n 2, 1) := by decide +kernel
theorem dX8_takeNumber_47 : decode cX8_takeNumber 47 = .ok (.if_icmp .le 13, 3) := by decide +kernel
theorem dX8_takeNumber_50 : decode cX8_takeNumber 50 = .ok (.aload_n 0, 1) := by decide +kernel
theorem dX8_takeNumber_51 : decode cX8_takeNumber 51 = .ok (.iconst 2, 1) := by decide +kernel
theorem dX8_takeNumber_52 : decode cX8_takeNumber 52 = .ok (.aload_n 0, 1) := by decide +kernel
theorem dX8_takeNumber_53 : decode cX8_takeNumber 53 = .ok (.getfield 103, 3) := by decide +kernel
theorem dX8_takeNumber_56 : decode cX8_takeNumber 56 = .ok (.invokevirtual 106, 3) := by decide +kernel
theorem dX8_takeNumber_59 : decode cX8_takeNumber 59 = .ok (.ireturn, 1) := by decide +kernel
theorem dX8_takeNumber_60 : decode cX8_takeNumber 60 = .ok (.aload_n 0, 1) := by decide +kernel
theorem dX8_takeNumber_61 : decode cX8_takeNumber 61 = .ok (.invokevirtual 38, 3) := by decide +kernel
theorem dX8_takeNumber_64 : decode cX8_takeNumber 64 = .ok (.iconst 1, 1) := by decide +kernel
theorem dX8_takeNumber_65 : decode cX8_takeNumber 65 = .ok (.ireturn, 1) := by decide +kernel
theorem dX8_takeWord_0 : decode cX8_takeWord 0 = .ok (.aload_n 0, 1) := by decide +kernel
theorem dX8_takeWord_1 : decode cX8_takeWord 1 = .ok (.aload_n 1, 1) := by decide +kernel
theorem dX8_takeWord_2 : decode cX8_takeWord 2 = .ok (.invokevirtual 59, 3) := by decide +kernel
theorem dX8_takeWord_5 : decode cX8_takeWord 5 = .ok (.ifCond .ne 13, 3) := by decide +kernel
theorem dX8_takeWord_8 : decode cX8_takeWord 8 = .ok (.aload_n 0, 1) := by decide +kernel
theorem dX8_takeWord_9 : decode cX8_takeWord 9 = .ok (.iconst 1, 1) := by decide +kernel
theorem dX8_takeWord_10 : decode cX8_takeWord 10 = .ok (.aload_n 0, 1) := by decide +kernel
theorem dX8_takeWord_11 : decode cX8_takeWord 11 = .ok (.getfield 103, 3) := by decide +kernel
theorem dX8_takeWord_14 : decode cX8_takeWord 14 = .ok (.invokevirtual 106, 3) := by decide +kernel
theorem dX8_takeWord_17 : decode cX8_takeWord 17 = .ok (.ireturn, 1) := by decide +kernel
theorem dX8_takeWord_18 : decode cX8_takeWord 18 = .ok (.aload_n 0, 1) := by decide +kernel
theorem dX8_takeWord_19 : decode cX8_takeWord 19 = .ok (.invokevirtual 38, 3) := by decide +kernel
theorem dX8_takeWord_22 : decode cX8_takeWord 22 = .ok (.iconst 1, 1) := by decide +kernel
theorem dX8_takeWord_23 : decode cX8_takeWord 23 = .ok (.ireturn, 1) := by decide +kernel
theorem dX8_takeSign_0 : decode cX8_takeSign 0 = .ok (.aload_n 0, 1) := by decide +kernel
theorem dX8_takeSign_1 : decode cX8_takeSign 1 = .ok (.getfield 41, 3) := by decide +kernel
theorem dX8_takeSign_4 : decode cX8_takeSign 4 = .ok (.iconst 3, 1) := by decide +kernel
theorem dX8_takeSign_5 : decode cX8_takeSign 5 = .ok (.if_icmp .eq 13, 3) := by decide +kernel
theorem dX8_takeSign_8 : decode cX8_takeSign 8 = .ok (.aload_n 0, 1) := by decide +kernel
theorem dX8_takeSign_9 : decode cX8_takeSign 9 = .ok (.iconst 1, 1) := by decide +kernel
theorem dX8_takeSign_10 : decode cX8_takeSign 10 = .ok (.aload_n 0, 1) := by decide +kernel
theorem dX8_takeSign_11 : decode cX8_takeSign 11 = .ok (.getfield 103, 3) := by decide +kernel
theorem dX8_takeSign_14 : decode cX8_takeSign 14 = .ok (.invokevirtual 106, 3) := by decide +kernel
theorem dX8_takeSign_17 : decode cX8_takeSign 17 = .ok (.ireturn, 1) := by decide +kernel
theorem dX8_takeSign_18 : decode cX8_takeSign 18 = .ok (.aload_n 0, 1) := by decide +kernel
theorem dX8_takeSign_19 : decode cX8_takeSign 19 = .ok (.invokevirtual 38, 3) := by decide +kernel
theorem dX8_takeSign_22 : decode cX8_takeSign 22 = .ok (.iconst 1, 1) := by decide +kernel
theorem dX8_takeSign_23 : decode cX8_takeSign 23 = .ok (.ireturn, 1) := by decide +kernel
theorem dX8_refuse_0 : decode cX8_refuse 0 = .ok (.aload_n 0, 1) := by decide +kernel
theorem dX8_refuse_1 : decode cX8_refuse 1 = .ok (.iload_n 1, 1) := by decide +kernel
theorem dX8_refuse_2 : decode cX8_refuse 2 = .ok (.putfield 22, 3) := by decide +kernel
theorem dX8_refuse_5 : decode cX8_refuse 5 = .ok (.aload_n 0, 1) := by decide +kernel
theorem dX8_refuse_6 : decode cX8_refuse 6 = .ok (.iload_n 2, 1) := by decide +kernel
theorem dX8_refuse_7 : decode cX8_refuse 7 = .ok (.putfield 25, 3) := by decide +kernel
theorem dX8_refuse_10 : decode cX8_refuse 10 = .ok (.iconst 0, 1) := by decide +kernel
theorem dX8_refuse_11 : decode cX8_refuse 11 = .ok (.ireturn, 1) := by decide +kernel
theorem dX8_isWord_0 : decode cX8_isWord 0 = .ok (.aload_n 0, 1) := by decide +kernel
theorem dX8_isWord_1 : decode cX8_isWord 1 = .ok (.getfield 41, 3) := by decide +kernel
theorem dX8_isWord_4 : decode cX8_isWord 4 = .ok (.iconst 1, 1) := by decide +kernel
theorem dX8_isWord_5 : decode cX8_isWord 5 = .ok (.if_icmp .ne 19, 3) := by decide +kernel
theorem dX8_isWord_8 : decode cX8_isWord 8 = .ok (.aload_n 0, 1) := by decide +kernel
theorem dX8_isWord_9 : decode cX8_isWord 9 = .ok (.getfield 35, 3) := by decide +kernel
theorem dX8_isWord_12 : decode cX8_isWord 12 = .ok (.aload_n 0, 1) := by decide +kernel
theorem dX8_isWord_13 : decode cX8_isWord 13 = .ok (.getfield 103, 3) := by decide +kernel
theorem dX8_isWord_16 : decode cX8_isWord 16 = .ok (.isub, 1) := by decide +kernel
theorem dX8_isWord_17 : decode cX8_isWord 17 = .ok (.aload_n 1, 1) := by decide +kernel
theorem dX8_isWord_18 : decode cX8_isWord 18 = .ok (.invokevirtual 177, 3) := by decide +kernel
theorem dX8_isWord_21 : decode cX8_isWord 21 = .ok (.if_icmp .eq 5, 3) := by decide +kernel
theorem dX8_isWord_24 : decode cX8_isWord 24 = .ok (.iconst 0, 1) := by decide +kernel
theorem dX8_isWord_25 : decode cX8_isWord 25 = .ok (.ireturn, 1) := by decide +kernel
theorem dX8_isWord_26 : decode cX8_isWord 26 = .ok (.iconst 0, 1) := by decide +kernel
theorem dX8_isWord_27 : decode cX8_isWord 27 = .ok (.istore_n 2, 1) := by decide +kernel
theorem dX8_isWord_28 : decode cX8_isWord 28 = .ok (.iload_n 2, 1) := by decide +kernel
theorem dX8_isWord_29 : decode cX8_isWord 29 = .ok (.aload_n 1, 1) := by decide +kernel
theorem dX8_isWord_30 : decode cX8_isWord 30 = .ok (.invokevirtual 177, 3) := by decide +kernel
theorem dX8_isWord_33 : decode cX8_isWord 33 = .ok (.if_icmp .ge 29, 3) := by decide +kernel
theorem dX8_isWord_36 : decode cX8_isWord 36 = .ok (.aload_n 0, 1) := by decide +kernel
theorem dX8_isWord_37 : decode cX8_isWord 37 = .ok (.aload_n 0, 1) := by decide +kernel
theorem dX8_isWord_38 : decode cX8_isWord 38 = .ok (.getfield 103, 3) := by decide +kernel
theorem dX8_isWord_41 : decode cX8_isWord 41 = .ok (.iload_n 2, 1) := by decide +kernel
theorem dX8_isWord_42 : decode cX8_isWord 42 = .ok (.iadd, 1) := by decide +kernel
theorem dX8_isWord_43 : decode cX8_isWord 43 = .ok (.invokevirtual 181, 3) := by decide +kernel
theorem dX8_isWord_46 : decode cX8_isWord 46 = .ok (.aload_n 1, 1) := by decide +kernel
theorem dX8_isWord_47 : decode cX8_isWord 47 = .ok (.iload_n 2, 1) := by decide +kernel
theorem dX8_isWord_48 : decode cX8_isWord 48 = .ok (.invokevirtual 185, 3) := by decide +kernel
theorem dX8_isWord_51 : decode cX8_isWord 51 = .ok (.if_icmp .eq 5, 3) := by decide +kernel
theorem dX8_isWord_54 : decode cX8_isWord 54 = .ok (.iconst 0, 1) := by decide +kernel
theorem dX8_isWord_55 : decode cX8_isWord 55 = .ok (.ireturn, 1) := by decide +kernel
theorem dX8_isWord_56 : decode cX8_isWord 56 = .ok (.iinc 2 1, 3) := by decide +kernel
theorem dX8_isWord_59 : decode cX8_isWord 59 = .ok (.goto (-31), 3) := by decide +kernel
theorem dX8_isWord_62 : decode cX8_isWord 62 = .ok (.iconst 1, 1) := by decide +kernel
theorem dX8_isWord_63 : decode cX8_isWord 63 = .ok (.ireturn, 1) := by decide +kernel
theorem dX8_valueOfToken_0 : decode cX8_valueOfToken 0 = .ok (.iconst 0, 1) := by decide +kernel
theorem dX8_valueOfToken_1 : decode cX8_valueOfToken 1 = .ok (.istore_n 1, 1) := by decide +kernel
theorem dX8_valueOfToken_2 : decode cX8_valueOfToken 2 = .ok (.aload_n 0, 1) := by decide +kernel
theorem dX8_valueOfToken_3 : decode cX8_valueOfToken 3 = .ok (.getfield 103, 3) := by decide +kernel
theorem dX8_valueOfToken_6 : decode cX8_valueOfToken 6 = .ok (.istore_n 2, 1) := by decide +kernel
theorem dX8_valueOfToken_7 : decode cX8_valueOfToken 7 = .ok (.iload_n 2, 1) := by decide +kernel
theorem dX8_valueOfToken_8 : decode cX8_valueOfToken 8 = .ok (.aload_n 0, 1) := by decide +kernel
theorem dX8_valueOfToken_9 : decode cX8_valueOfToken 9 = .ok (.getfield 35, 3) := by decide +kernel
theorem dX8_valueOfToken_12 : decode cX8_valueOfToken 12 = .ok (.if_icmp .ge 29, 3) := by decide +kernel
theorem dX8_valueOfToken_15 : decode cX8_valueOfToken 15 = .ok (.sipush 1000, 3) := by decide +kernel
theorem dX8_valueOfToken_18 : decode cX8_valueOfToken 18 = .ok (.bipush 10, 2) := by decide +kernel
theorem dX8_valueOfToken_20 : decode cX8_valueOfToken 20 = .ok (.iload_n 1, 1) := by decide +kernel
theorem dX8_valueOfToken_21 : decode cX8_valueOfToken 21 = .ok (.imul, 1) := by decide +kernel
theorem dX8_valueOfToken_22 : decode cX8_valueOfToken 22 = .ok (.aload_n 0, 1) := by decide +kernel
theorem dX8_valueOfToken_23 : decode cX8_valueOfToken 23 = .ok (.iload_n 2, 1) := by decide +kernel
theorem dX8_valueOfToken_24 : decode cX8_valueOfToken 24 = .ok (.invokevirtual 181, 3) := by decide +kernel
theorem dX8_valueOfToken_27 : decode cX8_valueOfToken 27 = .ok (.iadd, 1) := by decide +kernel
theorem dX8_valueOfToken_28 : decode cX8_valueOfToken 28 = .ok (.bipush 48, 2) := by decide +kernel
theorem dX8_valueOfToken_30 : decode cX8_valueOfToken 30 = .ok (.isub, 1) := by decide +kernel
theorem dX8_valueOfToken_31 : decode cX8_valueOfToken 31 = .ok (.invokestatic 189, 3) := by decide +kernel
theorem dX8_valueOfToken_34 : decode cX8_valueOfToken 34 = .ok (.istore_n 1, 1) := by decide +kernel
theorem dX8_valueOfToken_35 : decode cX8_valueOfToken 35 = .ok (.iinc 2 1, 3) := by decide +kernel
theorem dX8_valueOfToken_38 : decode cX8_valueOfToken 38 = .ok (.goto (-31), 3) := by decide +kernel
theorem dX8_valueOfToken_41 : decode cX8_valueOfToken 41 = .ok (.iload_n 1, 1) := by decide +kernel
theorem dX8_valueOfToken_42 : decode cX8_valueOfToken 42 = .ok (.ireturn, 1) := by decide +kernel
theorem dX8_goToNext_0 : decode cX8_goToNext 0 = .ok (.aload_n 0, 1) := by decide +kernel
theorem dX8_goToNext_1 : decode cX8_goToNext 1 = .ok (.getfield 35, 3) := by decide +kernel
theorem dX8_goToNext_4 : decode cX8_goToNext 4 = .ok (.aload_n 0, 1) := by decide +kernel
theorem dX8_goToNext_5 : decode cX8_goToNext 5 = .ok (.getfield 9, 3) := by decide +kernel
theorem dX8_goToNext_8 : decode cX8_goToNext 8 = .ok (.if_icmp .ge 30, 3) := by decide +kernel
theorem dX8_goToNext_11 : decode cX8_goToNext 11 = .ok (.aload_n 0, 1) := by decide +kernel
theorem dX8_goToNext_12 : decode cX8_goToNext 12 = .ok (.aload_n 0, 1) := by decide +kernel
theorem dX8_goToNext_13 : decode cX8_goToNext 13 = .ok (.getfield 35, 3) := by decide +kernel
theorem dX8_goToNext_16 : decode cX8_goToNext 16 = .ok (.invokevirtual 181, 3) := by decide +kernel
theorem dX8_goToNext_19 : decode cX8_goToNext 19 = .ok (.invokestatic 194, 3) := by decide +kernel
theorem dX8_goToNext_22 : decode cX8_goToNext 22 = .ok (.ifCond .eq 16, 3) := by decide +kernel
theorem dX8_goToNext_25 : decode cX8_goToNext 25 = .ok (.aload_n 0, 1) := by decide +kernel
theorem dX8_goToNext_26 : decode cX8_goToNext 26 = .ok (.dup, 1) := by decide +kernel
theorem dX8_goToNext_27 : decode cX8_goToNext 27 = .ok (.getfield 35, 3) := by decide +kernel
theorem dX8_goToNext_30 : decode cX8_goToNext 30 = .ok (.iconst 1, 1) := by decide +kernel
theorem dX8_goToNext_31 : decode cX8_goToNext 31 = .ok (.iadd, 1) := by decide +kernel
theorem dX8_goToNext_32 : decode cX8_goToNext 32 = .ok (.putfield 35, 3) := by decide +kernel
theorem dX8_goToNext_35 : decode cX8_goToNext 35 = .ok (.goto (-35), 3) := by decide +kernel
theorem dX8_goToNext_38 : decode cX8_goToNext 38 = .ok (.aload_n 0, 1) := by decide +kernel
theorem dX8_goToNext_39 : decode cX8_goToNext 39 = .ok (.aload_n 0, 1) := by decide +kernel
theorem dX8_goToNext_40 : decode cX8_goToNext 40 = .ok (.getfield 35, 3) := by decide +kernel
theorem dX8_goToNext_43 : decode cX8_goToNext 43 = .ok (.putfield 103, 3) := by decide +kernel
theorem dX8_goToNext_46 : decode cX8_goToNext 46 = .ok (.aload_n 0, 1) := by decide +kernel
theorem dX8_goToNext_47 : decode cX8_goToNext 47 = .ok (.aload_n 0, 1) := by decide +kernel
theorem dX8_goToNext_48 : decode cX8_goToNext 48 = .ok (.getfield 35, 3) := by decide +kernel
theorem dX8_goToNext_51 : decode cX8_goToNext 51 = .ok (.aload_n 0, 1) := by decide +kernel
theorem dX8_goToNext_52 : decode cX8_goToNext 52 = .ok (.getfield 9, 3) := by decide +kernel
theorem dX8_goToNext_55 : decode cX8_goToNext 55 = .ok (.if_icmp .ge 17, 3) := by decide +kernel
theorem dX8_goToNext_58 : decode cX8_goToNext 58 = .ok (.aload_n 0, 1) := by decide +kernel
theorem dX8_goToNext_59 : decode cX8_goToNext 59 = .ok (.aload_n 0, 1) := by decide +kernel
theorem dX8_goToNext_60 : decode cX8_goToNext 60 = .ok (.getfield 35, 3) := by decide +kernel
theorem dX8_goToNext_63 : decode cX8_goToNext 63 = .ok (.invokevirtual 181, 3) := by decide +kernel
theorem dX8_goToNext_66 : decode cX8_goToNext 66 = .ok (.invokestatic 197, 3) := by decide +kernel
theorem dX8_goToNext_69 : decode cX8_goToNext 69 = .ok (.goto 4, 3) := by decide +kernel
theorem dX8_goToNext_72 : decode cX8_goToNext 72 = .ok (.iconst 0, 1) := by decide +kernel
theorem dX8_goToNext_73 : decode cX8_goToNext 73 = .ok (.putfield 41, 3) := by decide +kernel
theorem dX8_goToNext_76 : decode cX8_goToNext 76 = .ok (.aload_n 0, 1) := by decide +kernel
theorem dX8_goToNext_77 : decode cX8_goToNext 77 = .ok (.getfield 41, 3) := by decide +kernel
theorem dX8_goToNext_80 : decode cX8_goToNext 80 = .ok (.iconst 1, 1) := by decide +kernel
theorem dX8_goToNext_81 : decode cX8_goToNext 81 = .ok (.if_icmp .eq 11, 3) := by decide +kernel
theorem dX8_goToNext_84 : decode cX8_goToNext 84 = .ok (.aload_n 0, 1) := by decide +kernel
theorem dX8_goToNext_85 : decode cX8_goToNext 85 = .ok (.getfield 41, 3) := by decide +kernel
theorem dX8_goToNext_88 : decode cX8_goToNext 88 = .ok (.iconst 2, 1) := by decide +kernel
theorem dX8_goToNext_89 : decode cX8_goToNext 89 = .ok (.if_icmp .ne 45, 3) := by decide +kernel
theorem dX8_goToNext_92 : decode cX8_goToNext 92 = .ok (.aload_n 0, 1) := by decide +kernel
theorem dX8_goToNext_93 : decode cX8_goToNext 93 = .ok (.getfield 35, 3) := by decide +kernel
theorem dX8_goToNext_96 : decode cX8_goToNext 96 = .ok (.aload_n 0, 1) := by decide +kernel
theorem dX8_goToNext_97 : decode cX8_goToNext 97 = .ok (.getfield 9, 3) := by decide +kernel
theorem dX8_goToNext_100 : decode cX8_goToNext 100 = .ok (.if_icmp .ge 51, 3) := by decide +kernel
theorem dX8_goToNext_103 : decode cX8_goToNext 103 = .ok (.aload_n 0, 1) := by decide +kernel
theorem dX8_goToNext_104 : decode cX8_goToNext 104 = .ok (.aload_n 0, 1) := by decide +kernel
theorem dX8_goToNext_105 : decode cX8_goToNext 105 = .ok (.getfield 35, 3) := by decide +kernel
theorem dX8_goToNext_108 : decode cX8_goToNext 108 = .ok (.invokevirtual 181, 3) := by decide +kernel
theorem dX8_goToNext_111 : decode cX8_goToNext 111 = .ok (.invokestatic 197, 3) := by decide +kernel
theorem dX8_goToNext_114 : decode cX8_goToNext 114 = .ok (.aload_n 0, 1) := by decide +kernel
theorem dX8_goToNext_115 : decode cX8_goToNext 115 = .ok (.getfield 41, 3) := by decide +kernel
theorem dX8_goToNext_118 : decode cX8_goToNext 118 = .ok (.if_icmp .ne 33, 3) := by decide +kernel
theorem dX8_goToNext_121 : decode cX8_goToNext 121 = .ok (.aload_n 0, 1) := by decide +kernel
theorem dX8_goToNext_122 : decode cX8_goToNext 122 = .ok (.dup, 1) := by decide +kernel
theorem dX8_goToNext_123 : decode cX8_goToNext 123 = .ok (.getfield 35, 3) := by decide +kernel
theorem dX8_goToNext_126 : decode cX8_goToNext 126 = .ok (.iconst 1, 1) := by decide +kernel
theorem dX8_goToNext_127 : decode cX8_goToNext 127 = .ok (.iadd, 1) := by decide +kernel
theorem dX8_goToNext_128 : decode cX8_goToNext 128 = .ok (.putfield 35, 3) := by decide +kernel
theorem dX8_goToNext_131 : decode cX8_goToNext 131 = .ok (.goto (-39), 3) := by decide +kernel
theorem dX8_goToNext_134 : decode cX8_goToNext 134 = .ok (.aload_n 0, 1) := by decide +kernel
theorem dX8_goToNext_135 : decode cX8_goToNext 135 = .ok (.getfield 41, 3) := by decide +kernel
theorem dX8_goToNext_138 : decode cX8_goToNext 138 = .ok (.ifCond .eq 13, 3) := by decide +kernel
theorem dX8_goToNext_141 : decode cX8_goToNext 141 = .ok (.aload_n 0, 1) := by decide +kernel
theorem dX8_goToNext_142 : decode cX8_goToNext 142 = .ok (.dup, 1) := by decide +kernel
theorem dX8_goToNext_143 : decode cX8_goToNext 143 = .ok (.getfield 35, 3) := by decide +kernel
theorem dX8_goToNext_146 : decode cX8_goToNext 146 = .ok (.iconst 1, 1) := by decide +kernel
theorem dX8_goToNext_147 : decode cX8_goToNext 147 = .ok (.iadd, 1) := by decide +kernel
theorem dX8_goToNext_148 : decode cX8_goToNext 148 = .ok (.putfield 35, 3) := by decide +kernel
theorem dX8_goToNext_151 : decode cX8_goToNext 151 = .ok (.return_, 1) := by decide +kernel
theorem dX8_kindOf_0 : decode cX8_kindOf 0 = .ok (.iload_n 0, 1) := by decide +kernel
theorem dX8_kindOf_1 : decode cX8_kindOf 1 = .ok (.bipush 97, 2) := by decide +kernel
theorem dX8_kindOf_3 : decode cX8_kindOf 3 = .ok (.if_icmp .lt 11, 3) := by decide +kernel
theorem dX8_kindOf_6 : decode cX8_kindOf 6 = .ok (.iload_n 0, 1) := by decide +kernel
theorem dX8_kindOf_7 : decode cX8_kindOf 7 = .ok (.bipush 122, 2) := by decide +kernel
theorem dX8_kindOf_9 : decode cX8_kindOf 9 = .ok (.if_icmp .gt 5, 3) := by decide +kernel
theorem dX8_kindOf_12 : decode cX8_kindOf 12 = .ok (.iconst 1, 1) := by decide +kernel
theorem dX8_kindOf_13 : decode cX8_kindOf 13 = .ok (.ireturn, 1) := by decide +kernel
theorem dX8_kindOf_14 : decode cX8_kindOf 14 = .ok (.iload_n 0, 1) := by decide +kernel
theorem dX8_kindOf_15 : decode cX8_kindOf 15 = .ok (.bipush 48, 2) := by decide +kernel
theorem dX8_kindOf_17 : decode cX8_kindOf 17 = .ok (.if_icmp .lt 11, 3) := by decide +kernel
theorem dX8_kindOf_20 : decode cX8_kindOf 20 = .ok (.iload_n 0, 1) := by decide +kernel
theorem dX8_kindOf_21 : decode cX8_kindOf 21 = .ok (.bipush 57, 2) := by decide +kernel
theorem dX8_kindOf_23 : decode cX8_kindOf 23 = .ok (.if_icmp .gt 5, 3) := by decide +kernel
theorem dX8_kindOf_26 : decode cX8_kindOf 26 = .ok (.iconst 2, 1) := by decide +kernel
theorem dX8_kindOf_27 : decode cX8_kindOf 27 = .ok (.ireturn, 1) := by decide +kernel
theorem dX8_kindOf_28 : decode cX8_kindOf 28 = .ok (.iload_n 0, 1) := by decide +kernel
theorem dX8_kindOf_29 : decode cX8_kindOf 29 = .ok (.bipush 59, 2) := by decide +kernel
theorem dX8_kindOf_31 : decode cX8_kindOf 31 = .ok (.if_icmp .ne 7, 3) := by decide +kernel
theorem dX8_kindOf_34 : decode cX8_kindOf 34 = .ok (.iconst 3, 1) := by decide +kernel
theorem dX8_kindOf_35 : decode cX8_kindOf 35 = .ok (.goto 4, 3) := by decide +kernel
theorem dX8_kindOf_38 : decode cX8_kindOf 38 = .ok (.iconst 4, 1) := by decide +kernel
theorem dX8_kindOf_39 : decode cX8_kindOf 39 = .ok (.ireturn, 1) := by decide +kernel
