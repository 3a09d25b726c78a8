theorem dX11_person_0 : decode cX11_person 0 = .ok (.aload_n 0, 1) := by decide +kernel
theorem dX11_person_1 : decode cX11_person 1 = .ok (.getfield 19, 3) := by decide +kernel
theorem dX11_person_4 : decode cX11_person 4 = .ok (.iload_n 1, 1) := by decide +kernel
theorem dX11_person_5 : decode cX11_person 5 = .ok (.invokevirtual 115, 3) := by decide +kernel
theorem dX11_person_8 : decode cX11_person 8 = .ok (.ifCond .ne 6, 3) := by decide +kernel
theorem dX11_person_11 : decode cX11_person 11 = .ok (.bipush (-2), 2) := by decide +kernel
theorem dX11_person_13 : decode cX11_person 13 = .ok (.ireturn, 1) := by decide +kernel
theorem dX11_person_14 : decode cX11_person 14 = .ok (.iload_n 2, 1) := by decide +kernel
theorem dX11_person_15 : decode cX11_person 15 = .ok (.tableswitch 83 0 4 #[33, 43, 53, 63, 73], 33) := by decide +kernel
theorem dX11_person_48 : decode cX11_person 48 = .ok (.aload_n 0, 1) := by decide +kernel
theorem dX11_person_49 : decode cX11_person 49 = .ok (.getfield 19, 3) := by decide +kernel
theorem dX11_person_52 : decode cX11_person 52 = .ok (.getfield 119, 3) := by decide +kernel
theorem dX11_person_55 : decode cX11_person 55 = .ok (.iload_n 1, 1) := by decide +kernel
theorem dX11_person_56 : decode cX11_person 56 = .ok (.iaload, 1) := by decide +kernel
theorem dX11_person_57 : decode cX11_person 57 = .ok (.ireturn, 1) := by decide +kernel
theorem dX11_person_58 : decode cX11_person 58 = .ok (.aload_n 0, 1) := by decide +kernel
theorem dX11_person_59 : decode cX11_person 59 = .ok (.getfield 19, 3) := by decide +kernel
theorem dX11_person_62 : decode cX11_person 62 = .ok (.getfield 123, 3) := by decide +kernel
theorem dX11_person_65 : decode cX11_person 65 = .ok (.iload_n 1, 1) := by decide +kernel
theorem dX11_person_66 : decode cX11_person 66 = .ok (.iaload, 1) := by decide +kernel
theorem dX11_person_67 : decode cX11_person 67 = .ok (.ireturn, 1) := by decide +kernel
theorem dX11_person_68 : decode cX11_person 68 = .ok (.aload_n 0, 1) := by decide +kernel
theorem dX11_person_69 : decode cX11_person 69 = .ok (.getfield 19, 3) := by decide +kernel
theorem dX11_person_72 : decode cX11_person 72 = .ok (.getfield 126, 3) := by decide +kernel
theorem dX11_person_75 : decode cX11_person 75 = .ok (.iload_n 1, 1) := by decide +kernel
theorem dX11_person_76 : decode cX11_person 76 = .ok (.iaload, 1) := by decide +kernel
theorem dX11_person_77 : decode cX11_person 77 = .ok (.ireturn, 1) := by decide +kernel
theorem dX11_person_78 : decode cX11_person 78 = .ok (.aload_n 0, 1) := by decide +kernel
theorem dX11_person_79 : decode cX11_person 79 = .ok (.getfield 19, 3) := by decide +kernel
theorem dX11_person_82 : decode cX11_person 82 = .ok (.getfield 129, 3) := by decide +kernel
theorem dX11_person_85 : decode cX11_person 85 = .ok (.iload_n 1, 1) := by decide +kernel
theorem dX11_person_86 : decode cX11_person 86 = .ok (.iaload, 1) := by decide +kernel
theorem dX11_person_87 : decode cX11_person 87 = .ok (.ireturn, 1) := by decide +kernel
theorem dX11_person_88 : decode cX11_person 88 = .ok (.aload_n 0, 1) := by decide +kernel
theorem dX11_person_89 : decode cX11_person 89 = .ok (.getfield 19, 3) := by decide +kernel
theorem dX11_person_92 : decode cX11_person 92 = .ok (.getfield 132, 3) := by decide +kernel
theorem dX11_person_95 : decode cX11_person 95 = .ok (.iload_n 1, 1) := by decide +kernel
theorem dX11_person_96 : decode cX11_person 96 = .ok (.iaload, 1) := by decide +kernel
theorem dX11_person_97 : decode cX11_person 97 = .ok (.ireturn, 1) := by decide +kernel
theorem dX11_person_98 : decode cX11_person 98 = .ok (.bipush (-2), 2) := by decide +kernel
theorem dX11_person_100 : decode cX11_person 100 = .ok (.ireturn, 1) := by decide +kernel
theorem dX11_pair_0 : decode cX11_pair 0 = .ok (.aload_n 0, 1) := by decide +kernel
theorem dX11_pair_1 : decode cX11_pair 1 = .ok (.getfield 19, 3) := by decide +kernel
theorem dX11_pair_4 : decode cX11_pair 4 = .ok (.iload_n 1, 1) := by decide +kernel
theorem dX11_pair_5 : decode cX11_pair 5 = .ok (.invokevirtual 135, 3) := by decide +kernel
theorem dX11_pair_8 : decode cX11_pair 8 = .ok (.ifCond .ne 6, 3) := by decide +kernel
theorem dX11_pair_11 : decode cX11_pair 11 = .ok (.bipush (-2), 2) := by decide +kernel
theorem dX11_pair_13 : decode cX11_pair 13 = .ok (.ireturn, 1) := by decide +kernel
theorem dX11_pair_14 : decode cX11_pair 14 = .ok (.iload_n 2, 1) := by decide +kernel
theorem dX11_pair_15 : decode cX11_pair 15 = .ok (.tableswitch 61 0 2 #[25, 37, 51], 25) := by decide +kernel
theorem dX11_pair_40 : decode cX11_pair 40 = .ok (.aload_n 0, 1) := by decide +kernel
theorem dX11_pair_41 : decode cX11_pair 41 = .ok (.getfield 19, 3) := by decide +kernel
theorem dX11_pair_44 : decode cX11_pair 44 = .ok (.getfield 138, 3) := by decide +kernel
theorem dX11_pair_47 : decode cX11_pair 47 = .ok (.iconst 2, 1) := by decide +kernel
theorem dX11_pair_48 : decode cX11_pair 48 = .ok (.iload_n 1, 1) := by decide +kernel
theorem dX11_pair_49 : decode cX11_pair 49 = .ok (.imul, 1) := by decide +kernel
theorem dX11_pair_50 : decode cX11_pair 50 = .ok (.iaload, 1) := by decide +kernel
theorem dX11_pair_51 : decode cX11_pair 51 = .ok (.ireturn, 1) := by decide +kernel
theorem dX11_pair_52 : decode cX11_pair 52 = .ok (.aload_n 0, 1) := by decide +kernel
theorem dX11_pair_53 : decode cX11_pair 53 = .ok (.getfield 19, 3) := by decide +kernel
theorem dX11_pair_56 : decode cX11_pair 56 = .ok (.getfield 138, 3) := by decide +kernel
theorem dX11_pair_59 : decode cX11_pair 59 = .ok (.iconst 2, 1) := by decide +kernel
theorem dX11_pair_60 : decode cX11_pair 60 = .ok (.iload_n 1, 1) := by decide +kernel
theorem dX11_pair_61 : decode cX11_pair 61 = .ok (.imul, 1) := by decide +kernel
theorem dX11_pair_62 : decode cX11_pair 62 = .ok (.iconst 1, 1) := by decide +kernel
theorem dX11_pair_63 : decode cX11_pair 63 = .ok (.iadd, 1) := by decide +kernel
theorem dX11_pair_64 : decode cX11_pair 64 = .ok (.iaload, 1) := by decide +kernel
theorem dX11_pair_65 : decode cX11_pair 65 = .ok (.ireturn, 1) := by decide +kernel
theorem dX11_pair_66 : decode cX11_pair 66 = .ok (.aload_n 0, 1) := by decide +kernel
theorem dX11_pair_67 : decode cX11_pair 67 = .ok (.getfield 19, 3) := by decide +kernel
theorem dX11_pair_70 : decode cX11_pair 70 = .ok (.getfield 141, 3) := by decide +kernel
theorem dX11_pair_73 : decode cX11_pair 73 = .ok (.iload_n 1, 1) := by decide +kernel
theorem dX11_pair_74 : decode cX11_pair 74 = .ok (.iaload, 1) := by decide +kernel
theorem dX11_pair_75 : decode cX11_pair 75 = .ok (.ireturn, 1) := by decide +kernel
theorem dX11_pair_76 : decode cX11_pair 76 = .ok (.bipush (-2), 2) := by decide +kernel
theorem dX11_pair_78 : decode cX11_pair 78 = .ok (.ireturn, 1) := by decide +kernel
theorem dX11_of_0 : decode cX11_of 0 = .ok (.aload_n 0, 1) := by decide +kernel
theorem dX11_of_1 : decode cX11_of 1 = .ok (.getfield 19, 3) := by decide +kernel
theorem dX11_of_4 : decode cX11_of 4 = .ok (.iload_n 1, 1) := by decide +kernel
theorem dX11_of_5 : decode cX11_of 5 = .ok (.invokevirtual 115, 3) := by decide +kernel
theorem dX11_of_8 : decode cX11_of 8 = .ok (.ifCond .eq 19, 3) := by decide +kernel
theorem dX11_of_11 : decode cX11_of 11 = .ok (.aload_n 0, 1) := by decide +kernel
theorem dX11_of_12 : decode cX11_of 12 = .ok (.getfield 19, 3) := by decide +kernel
theorem dX11_of_15 : decode cX11_of 15 = .ok (.iload_n 2, 1) := by decide +kernel
theorem dX11_of_16 : decode cX11_of 16 = .ok (.invokevirtual 115, 3) := by decide +kernel
theorem dX11_of_19 : decode cX11_of 19 = .ok (.ifCond .eq 8, 3) := by decide +kernel
theorem dX11_of_22 : decode cX11_of 22 = .ok (.iload_n 1, 1) := by decide +kernel
theorem dX11_of_23 : decode cX11_of 23 = .ok (.iload_n 2, 1) := by decide +kernel
theorem dX11_of_24 : decode cX11_of 24 = .ok (.if_icmp .ne 6, 3) := by decide +kernel
theorem dX11_of_27 : decode cX11_of 27 = .ok (.bipush (-2), 2) := by decide +kernel
theorem dX11_of_29 : decode cX11_of 29 = .ok (.ireturn, 1) := by decide +kernel
theorem dX11_of_30 : decode cX11_of 30 = .ok (.aload_n 0, 1) := by decide +kernel
theorem dX11_of_31 : decode cX11_of 31 = .ok (.getfield 19, 3) := by decide +kernel
theorem dX11_of_34 : decode cX11_of 34 = .ok (.iload_n 1, 1) := by decide +kernel
theorem dX11_of_35 : decode cX11_of 35 = .ok (.iload_n 2, 1) := by decide +kernel
theorem dX11_of_36 : decode cX11_of 36 = .ok (.invokevirtual 144, 3) := by decide +kernel
theorem dX11_of_39 : decode cX11_of 39 = .ok (.ireturn, 1) := by decide +kernel
theorem dX11_does_0 : decode cX11_does 0 = .ok (.iload_n 1, 1) := by decide +kernel
theorem dX11_does_1 : decode cX11_does 1 = .ok (.bipush 16, 2) := by decide +kernel
theorem dX11_does_3 : decode cX11_does 3 = .ok (.invokestatic 148, 3) := by decide +kernel
theorem dX11_does_6 : decode cX11_does 6 = .ok (.ifCond .eq 17, 3) := by decide +kernel
theorem dX11_does_9 : decode cX11_does 9 = .ok (.iload_n 2, 1) := by decide +kernel
theorem dX11_does_10 : decode cX11_does 10 = .ok (.invokestatic 152, 3) := by decide +kernel
theorem dX11_does_13 : decode cX11_does 13 = .ok (.ifCond .eq 10, 3) := by decide +kernel
theorem dX11_does_16 : decode cX11_does 16 = .ok (.iload_n 3, 1) := by decide +kernel
theorem dX11_does_17 : decode cX11_does 17 = .ok (.invokestatic 152, 3) := by decide +kernel
theorem dX11_does_20 : decode cX11_does 20 = .ok (.ifCond .ne 6, 3) := by decide +kernel
theorem dX11_does_23 : decode cX11_does 23 = .ok (.bipush (-2), 2) := by decide +kernel
theorem dX11_does_25 : decode cX11_does 25 = .ok (.ireturn, 1) := by decide +kernel
theorem dX11_does_26 : decode cX11_does 26 = .ok (.iload_n 1, 1) := by decide +kernel
theorem dX11_does_27 : decode cX11_does 27 = .ok (.iload_n 2, 1) := by decide +kernel
theorem dX11_does_28 : decode cX11_does 28 = .ok (.iconst 2, 1) := by decide +kernel
theorem dX11_does_29 : decode cX11_does 29 = .ok (.iload_n 3, 1) := by decide +kernel
theorem dX11_does_30 : decode cX11_does 30 = .ok (.imul, 1) := by decide +kernel
theorem dX11_does_31 : decode cX11_does 31 = .ok (.iadd, 1) := by decide +kernel
theorem dX11_does_32 : decode cX11_does 32 = .ok (.ishr, 1) := by decide +kernel
theorem dX11_does_33 : decode cX11_does 33 = .ok (.iconst 1, 1) := by decide +kernel
theorem dX11_does_34 : decode cX11_does 34 = .ok (.iand, 1) := by decide +kernel
theorem dX11_does_35 : decode cX11_does 35 = .ok (.ireturn, 1) := by decide +kernel
theorem dX11_sends_0 : decode cX11_sends 0 = .ok (.aload_n 0, 1) := by decide +kernel
theorem dX11_sends_1 : decode cX11_sends 1 = .ok (.iload_n 1, 1) := by decide +kernel
theorem dX11_sends_2 : decode cX11_sends 2 = .ok (.iload_n 2, 1) := by decide +kernel
theorem dX11_sends_3 : decode cX11_sends 3 = .ok (.iload_n 3, 1) := by decide +kernel
theorem dX11_sends_4 : decode cX11_sends 4 = .ok (.invokevirtual 155, 3) := by decide +kernel
theorem dX11_sends_7 : decode cX11_sends 7 = .ok (.ifCond .ne 6, 3) := by decide +kernel
theorem dX11_sends_10 : decode cX11_sends 10 = .ok (.bipush (-2), 2) := by decide +kernel
theorem dX11_sends_12 : decode cX11_sends 12 = .ok (.ireturn, 1) := by decide +kernel
theorem dX11_sends_13 : decode cX11_sends 13 = .ok (.aload_n 0, 1) := by decide +kernel
theorem dX11_sends_14 : decode cX11_sends 14 = .ok (.invokevirtual 159, 3) := by decide +kernel
theorem dX11_sends_17 : decode cX11_sends 17 = .ok (.astore 4, 2) := by decide +kernel
theorem dX11_sends_19 : decode cX11_sends 19 = .ok (.iconst 2, 1) := by decide +kernel
theorem dX11_sends_20 : decode cX11_sends 20 = .ok (.iload_n 1, 1) := by decide +kernel
theorem dX11_sends_21 : decode cX11_sends 21 = .ok (.imul, 1) := by decide +kernel
theorem dX11_sends_22 : decode cX11_sends 22 = .ok (.iload_n 2, 1) := by decide +kernel
theorem dX11_sends_23 : decode cX11_sends 23 = .ok (.iadd, 1) := by decide +kernel
theorem dX11_sends_24 : decode cX11_sends 24 = .ok (.istore 5, 2) := by decide +kernel
theorem dX11_sends_26 : decode cX11_sends 26 = .ok (.aload 4, 2) := by decide +kernel
theorem dX11_sends_28 : decode cX11_sends 28 = .ok (.getfield 163, 3) := by decide +kernel
theorem dX11_sends_31 : decode cX11_sends 31 = .ok (.iload 5, 2) := by decide +kernel
theorem dX11_sends_33 : decode cX11_sends 33 = .ok (.laload, 1) := by decide +kernel
theorem dX11_sends_34 : decode cX11_sends 34 = .ok (.iload_n 3, 1) := by decide +kernel
theorem dX11_sends_35 : decode cX11_sends 35 = .ok (.invokestatic 167, 3) := by decide +kernel
theorem dX11_sends_38 : decode cX11_sends 38 = .ok (.ifCond .eq 5, 3) := by decide +kernel
theorem dX11_sends_41 : decode cX11_sends 41 = .ok (.iconst 1, 1) := by decide +kernel
theorem dX11_sends_42 : decode cX11_sends 42 = .ok (.ireturn, 1) := by decide +kernel
theorem dX11_sends_43 : decode cX11_sends 43 = .ok (.aload 4, 2) := by decide +kernel
theorem dX11_sends_45 : decode cX11_sends 45 = .ok (.getfield 171, 3) := by decide +kernel
theorem dX11_sends_48 : decode cX11_sends 48 = .ok (.iload 5, 2) := by decide +kernel
theorem dX11_sends_50 : decode cX11_sends 50 = .ok (.laload, 1) := by decide +kernel
theorem dX11_sends_51 : decode cX11_sends 51 = .ok (.iload_n 3, 1) := by decide +kernel
theorem dX11_sends_52 : decode cX11_sends 52 = .ok (.invokestatic 167, 3) := by decide +kernel
theorem dX11_sends_55 : decode cX11_sends 55 = .ok (.ifCond .eq 7, 3) := by decide +kernel
theorem dX11_sends_58 : decode cX11_sends 58 = .ok (.iconst 2, 1) := by decide +kernel
theorem dX11_sends_59 : decode cX11_sends 59 = .ok (.goto 4, 3) := by decide +kernel
theorem dX11_sends_62 : decode cX11_sends 62 = .ok (.iconst 0, 1) := by decide +kernel
theorem dX11_sends_63 : decode cX11_sends 63 = .ok (.ireturn, 1) := by decide +kernel
theorem dX11_got_0 : decode cX11_got 0 = .ok (.aload_n 0, 1) := by decide +kernel
theorem dX11_got_1 : decode cX11_got 1 = .ok (.iload_n 1, 1) := by decide +kernel
theorem dX11_got_2 : decode cX11_got 2 = .ok (.iload_n 2, 1) := by decide +kernel
theorem dX11_got_3 : decode cX11_got 3 = .ok (.iload_n 3, 1) := by decide +kernel
theorem dX11_got_4 : decode cX11_got 4 = .ok (.invokevirtual 155, 3) := by decide +kernel
theorem dX11_got_7 : decode cX11_got 7 = .ok (.ifCond .ne 6, 3) := by decide +kernel
theorem dX11_got_10 : decode cX11_got 10 = .ok (.bipush (-2), 2) := by decide +kernel
theorem dX11_got_12 : decode cX11_got 12 = .ok (.ireturn, 1) := by decide +kernel
theorem dX11_got_13 : decode cX11_got 13 = .ok (.aload_n 0, 1) := by decide +kernel
theorem dX11_got_14 : decode cX11_got 14 = .ok (.invokevirtual 159, 3) := by decide +kernel
theorem dX11_got_17 : decode cX11_got 17 = .ok (.getfield 174, 3) := by decide +kernel
theorem dX11_got_20 : decode cX11_got 20 = .ok (.iconst 2, 1) := by decide +kernel
theorem dX11_got_21 : decode cX11_got 21 = .ok (.iload_n 1, 1) := by decide +kernel
theorem dX11_got_22 : decode cX11_got 22 = .ok (.imul, 1) := by decide +kernel
theorem dX11_got_23 : decode cX11_got 23 = .ok (.iload_n 2, 1) := by decide +kernel
theorem dX11_got_24 : decode cX11_got 24 = .ok (.iadd, 1) := by decide +kernel
theorem dX11_got_25 : decode cX11_got 25 = .ok (.laload, 1) := by decide +kernel
theorem dX11_got_26 : decode cX11_got 26 = .ok (.iload_n 3, 1) := by decide +kernel
theorem dX11_got_27 : decode cX11_got 27 = .ok (.invokestatic 167, 3) := by decide +kernel
theorem dX11_got_30 : decode cX11_got 30 = .ok (.ifCond .eq 7, 3) := by decide +kernel
theorem dX11_got_33 : decode cX11_got 33 = .ok (.iconst 1, 1) := by decide +kernel
theorem dX11_got_34 : decode cX11_got 34 = .ok (.goto 4, 3) := by decide +kernel
theorem dX11_got_37 : decode cX11_got 37 = .ok (.iconst 0, 1) := by decide +kernel
theorem dX11_got_38 : decode cX11_got 38 = .ok (.ireturn, 1) := by decide +kernel
