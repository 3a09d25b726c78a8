theorem dX11_feed_0 : decode cX11_feed 0 = .ok (.aload_n 0, 1) := by decide +kernel
theorem dX11_feed_1 : decode cX11_feed 1 = .ok (.getfield 10, 3) := by decide +kernel
theorem dX11_feed_4 : decode cX11_feed 4 = .ok (.getfield 83, 3) := by decide +kernel
theorem dX11_feed_7 : decode cX11_feed 7 = .ok (.bipush 20, 2) := by decide +kernel
theorem dX11_feed_9 : decode cX11_feed 9 = .ok (.iadd, 1) := by decide +kernel
theorem dX11_feed_10 : decode cX11_feed 10 = .ok (.sipush 1600, 3) := by decide +kernel
theorem dX11_feed_13 : decode cX11_feed 13 = .ok (.if_icmp .le 5, 3) := by decide +kernel
theorem dX11_feed_16 : decode cX11_feed 16 = .ok (.iconst (-1), 1) := by decide +kernel
theorem dX11_feed_17 : decode cX11_feed 17 = .ok (.ireturn, 1) := by decide +kernel
theorem dX11_feed_18 : decode cX11_feed 18 = .ok (.aload_n 0, 1) := by decide +kernel
theorem dX11_feed_19 : decode cX11_feed 19 = .ok (.getfield 10, 3) := by decide +kernel
theorem dX11_feed_22 : decode cX11_feed 22 = .ok (.iload_n 1, 1) := by decide +kernel
theorem dX11_feed_23 : decode cX11_feed 23 = .ok (.invokevirtual 87, 3) := by decide +kernel
theorem dX11_feed_26 : decode cX11_feed 26 = .ok (.aload_n 0, 1) := by decide +kernel
theorem dX11_feed_27 : decode cX11_feed 27 = .ok (.getfield 10, 3) := by decide +kernel
theorem dX11_feed_30 : decode cX11_feed 30 = .ok (.iload_n 2, 1) := by decide +kernel
theorem dX11_feed_31 : decode cX11_feed 31 = .ok (.invokevirtual 87, 3) := by decide +kernel
theorem dX11_feed_34 : decode cX11_feed 34 = .ok (.aload_n 0, 1) := by decide +kernel
theorem dX11_feed_35 : decode cX11_feed 35 = .ok (.getfield 10, 3) := by decide +kernel
theorem dX11_feed_38 : decode cX11_feed 38 = .ok (.iload_n 3, 1) := by decide +kernel
theorem dX11_feed_39 : decode cX11_feed 39 = .ok (.invokevirtual 87, 3) := by decide +kernel
theorem dX11_feed_42 : decode cX11_feed 42 = .ok (.aload_n 0, 1) := by decide +kernel
theorem dX11_feed_43 : decode cX11_feed 43 = .ok (.getfield 10, 3) := by decide +kernel
theorem dX11_feed_46 : decode cX11_feed 46 = .ok (.iload 4, 2) := by decide +kernel
theorem dX11_feed_48 : decode cX11_feed 48 = .ok (.invokevirtual 87, 3) := by decide +kernel
theorem dX11_feed_51 : decode cX11_feed 51 = .ok (.aload_n 0, 1) := by decide +kernel
theorem dX11_feed_52 : decode cX11_feed 52 = .ok (.getfield 10, 3) := by decide +kernel
theorem dX11_feed_55 : decode cX11_feed 55 = .ok (.iload 5, 2) := by decide +kernel
theorem dX11_feed_57 : decode cX11_feed 57 = .ok (.invokevirtual 87, 3) := by decide +kernel
theorem dX11_feed_60 : decode cX11_feed 60 = .ok (.aload_n 0, 1) := by decide +kernel
theorem dX11_feed_61 : decode cX11_feed 61 = .ok (.getfield 10, 3) := by decide +kernel
theorem dX11_feed_64 : decode cX11_feed 64 = .ok (.getfield 83, 3) := by decide +kernel
theorem dX11_feed_67 : decode cX11_feed 67 = .ok (.ireturn, 1) := by decide +kernel
theorem dX11_end_0 : decode cX11_end 0 = .ok (.iload_n 1, 1) := by decide +kernel
theorem dX11_end_1 : decode cX11_end 1 = .ok (.ifCond .lt 14, 3) := by decide +kernel
theorem dX11_end_4 : decode cX11_end 4 = .ok (.iload_n 1, 1) := by decide +kernel
theorem dX11_end_5 : decode cX11_end 5 = .ok (.aload_n 0, 1) := by decide +kernel
theorem dX11_end_6 : decode cX11_end 6 = .ok (.getfield 10, 3) := by decide +kernel
theorem dX11_end_9 : decode cX11_end 9 = .ok (.getfield 83, 3) := by decide +kernel
theorem dX11_end_12 : decode cX11_end 12 = .ok (.if_icmp .le 5, 3) := by decide +kernel
theorem dX11_end_15 : decode cX11_end 15 = .ok (.iconst (-1), 1) := by decide +kernel
theorem dX11_end_16 : decode cX11_end 16 = .ok (.ireturn, 1) := by decide +kernel
theorem dX11_end_17 : decode cX11_end 17 = .ok (.aload_n 0, 1) := by decide +kernel
theorem dX11_end_18 : decode cX11_end 18 = .ok (.getfield 10, 3) := by decide +kernel
theorem dX11_end_21 : decode cX11_end 21 = .ok (.iload_n 1, 1) := by decide +kernel
theorem dX11_end_22 : decode cX11_end 22 = .ok (.putfield 83, 3) := by decide +kernel
theorem dX11_end_25 : decode cX11_end 25 = .ok (.iload_n 1, 1) := by decide +kernel
theorem dX11_end_26 : decode cX11_end 26 = .ok (.ireturn, 1) := by decide +kernel
theorem dX11_land_0 : decode cX11_land 0 = .ok (.aload_n 0, 1) := by decide +kernel
theorem dX11_land_1 : decode cX11_land 1 = .ok (.getfield 10, 3) := by decide +kernel
theorem dX11_land_4 : decode cX11_land 4 = .ok (.invokevirtual 91, 3) := by decide +kernel
theorem dX11_land_7 : decode cX11_land 7 = .ok (.ifCond .ne 6, 3) := by decide +kernel
theorem dX11_land_10 : decode cX11_land 10 = .ok (.bipush (-4), 2) := by decide +kernel
theorem dX11_land_12 : decode cX11_land 12 = .ok (.ireturn, 1) := by decide +kernel
theorem dX11_land_13 : decode cX11_land 13 = .ok (.aload_n 0, 1) := by decide +kernel
theorem dX11_land_14 : decode cX11_land 14 = .ok (.getfield 19, 3) := by decide +kernel
theorem dX11_land_17 : decode cX11_land 17 = .ok (.aload_n 0, 1) := by decide +kernel
theorem dX11_land_18 : decode cX11_land 18 = .ok (.getfield 10, 3) := by decide +kernel
theorem dX11_land_21 : decode cX11_land 21 = .ok (.getfield 95, 3) := by decide +kernel
theorem dX11_land_24 : decode cX11_land 24 = .ok (.invokevirtual 98, 3) := by decide +kernel
theorem dX11_land_27 : decode cX11_land 27 = .ok (.aload_n 0, 1) := by decide +kernel
theorem dX11_land_28 : decode cX11_land 28 = .ok (.getfield 30, 3) := by decide +kernel
theorem dX11_land_31 : decode cX11_land 31 = .ok (.iconst 1, 1) := by decide +kernel
theorem dX11_land_32 : decode cX11_land 32 = .ok (.putfield 102, 3) := by decide +kernel
theorem dX11_land_35 : decode cX11_land 35 = .ok (.aload_n 0, 1) := by decide +kernel
theorem dX11_land_36 : decode cX11_land 36 = .ok (.getfield 10, 3) := by decide +kernel
theorem dX11_land_39 : decode cX11_land 39 = .ok (.iconst 0, 1) := by decide +kernel
theorem dX11_land_40 : decode cX11_land 40 = .ok (.putfield 83, 3) := by decide +kernel
theorem dX11_land_43 : decode cX11_land 43 = .ok (.aload_n 0, 1) := by decide +kernel
theorem dX11_land_44 : decode cX11_land 44 = .ok (.getfield 19, 3) := by decide +kernel
theorem dX11_land_47 : decode cX11_land 47 = .ok (.getfield 106, 3) := by decide +kernel
theorem dX11_land_50 : decode cX11_land 50 = .ok (.ireturn, 1) := by decide +kernel
theorem dX11_fault_0 : decode cX11_fault 0 = .ok (.iload_n 1, 1) := by decide +kernel
theorem dX11_fault_1 : decode cX11_fault 1 = .ok (.ifCond .ne 11, 3) := by decide +kernel
theorem dX11_fault_4 : decode cX11_fault 4 = .ok (.aload_n 0, 1) := by decide +kernel
theorem dX11_fault_5 : decode cX11_fault 5 = .ok (.getfield 10, 3) := by decide +kernel
theorem dX11_fault_8 : decode cX11_fault 8 = .ok (.getfield 109, 3) := by decide +kernel
theorem dX11_fault_11 : decode cX11_fault 11 = .ok (.ireturn, 1) := by decide +kernel
theorem dX11_fault_12 : decode cX11_fault 12 = .ok (.iload_n 1, 1) := by decide +kernel
theorem dX11_fault_13 : decode cX11_fault 13 = .ok (.iconst 1, 1) := by decide +kernel
theorem dX11_fault_14 : decode cX11_fault 14 = .ok (.if_icmp .ne 13, 3) := by decide +kernel
theorem dX11_fault_17 : decode cX11_fault 17 = .ok (.aload_n 0, 1) := by decide +kernel
theorem dX11_fault_18 : decode cX11_fault 18 = .ok (.getfield 10, 3) := by decide +kernel
theorem dX11_fault_21 : decode cX11_fault 21 = .ok (.getfield 112, 3) := by decide +kernel
theorem dX11_fault_24 : decode cX11_fault 24 = .ok (.goto 4, 3) := by decide +kernel
theorem dX11_fault_27 : decode cX11_fault 27 = .ok (.iconst (-1), 1) := by decide +kernel
theorem dX11_fault_28 : decode cX11_fault 28 = .ok (.ireturn, 1) := by decide +kernel
theorem dX11_person_0 : decode cX11_person 0 = .ok (.aload_n 0, 1) := by decide +kernel
theorem dX11_person_1 : decode cX11_person 1 = .ok (.getfield 19, 3) := by decide +kernel
theorem dX11_person_4 : decode cX11_person 4 = .ok (.iload_n 1, 1) := by decide +kernel
theorem dX11_person_5 : decode cX11_person 5 = .ok (.invokevirtual 115, 3) := by decide +kernel
theorem dX11_person_8 : decode cX11_person 8 = .ok (.ifCond .ne 6, 3) := by decide +kernel
theorem dX11_person_11 : decode cX11_person 11 = .ok (.bipush (-2), 2) := by decide +kernel
theorem dX11_person_13 : decode cX11_person 13 = .ok (.ireturn, 1) := by decide +kernel
theorem dX11_person_14 : decode cX11_person 14 = .ok (.iload_n 2, 1) := by decide +kernel
theorem dX11_person_15 : decode cX11_person 15 = .ok (.tableswitch 83 0 4 #[33, 43, 53, 63, 73], 33) := by decide +kernel
theorem dX11_person_48 : decode cX11_person 48 = .ok (.aload_n 0, 1) := by decide +kernel
theorem dX11_person_49 : decode cX11_person 49 = .ok (.getfield 19, 3) := by decide +kernel
theorem dX11_person_52 : decode cX11_person 52 = .ok (.getfield 119, 3) := by decide +kernel
theorem dX11_person_55 : decode cX11_person 55 = .ok (.iload_n 1, 1) := by decide +kernel
theorem dX11_person_56 : decode cX11_person 56 = .ok (.iaload, 1) := by decide +kernel
theorem dX11_person_57 : decode cX11_person 57 = .ok (.ireturn, 1) := by decide +kernel
theorem dX11_person_58 : decode cX11_person 58 = .ok (.aload_n 0, 1) := by decide +kernel
theorem dX11_person_59 : decode cX11_person 59 = .ok (.getfield 19, 3) := by decide +kernel
theorem dX11_person_62 : decode cX11_person 62 = .ok (.getfield 123, 3) := by decide +kernel
theorem dX11_person_65 : decode cX11_person 65 = .ok (.iload_n 1, 1) := by decide +kernel
theorem dX11_person_66 : decode cX11_person 66 = .ok (.iaload, 1) := by decide +kernel
theorem dX11_person_67 : decode cX11_person 67 = .ok (.ireturn, 1) := by decide +kernel
theorem dX11_person_68 : decode cX11_person 68 = .ok (.aload_n 0, 1) := by decide +kernel
theorem dX11_person_69 : decode cX11_person 69 = .ok (.getfield 19, 3) := by decide +kernel
theorem dX11_person_72 : decode cX11_person 72 = .ok (.getfield 126, 3) := by decide +kernel
theorem dX11_person_75 : decode cX11_person 75 = .ok (.iload_n 1, 1) := by decide +kernel
theorem dX11_person_76 : decode cX11_person 76 = .ok (.iaload, 1) := by decide +kernel
theorem dX11_person_77 : decode cX11_person 77 = .ok (.ireturn, 1) := by decide +kernel
theorem dX11_person_78 : decode cX11_person 78 = .ok (.aload_n 0, 1) := by decide +kernel
theorem dX11_person_79 : decode cX11_person 79 = .ok (.getfield 19, 3) := by decide +kernel
theorem dX11_person_82 : decode cX11_person 82 = .ok (.getfield 129, 3) := by decide +kernel
theorem dX11_person_85 : decode cX11_person 85 = .ok (.iload_n 1, 1) := by decide +kernel
theorem dX11_person_86 : decode cX11_person 86 = .ok (.iaload, 1) := by decide +kernel
theorem dX11_person_87 : decode cX11_person 87 = .ok (.ireturn, 1) := by decide +kernel
theorem dX11_person_88 : decode cX11_person 88 = .ok (.aload_n 0, 1) := by decide +kernel
theorem dX11_person_89 : decode cX11_person 89 = .ok (.getfield 19, 3) := by decide +kernel
theorem dX11_person_92 : decode cX11_person 92 = .ok (.getfield 132, 3) := by decide +kernel
theorem dX11_person_95 : decode cX11_person 95 = .ok (.iload_n 1, 1) := by decide +kernel
theorem dX11_person_96 : decode cX11_person 96 = .ok (.iaload, 1) := by decide +kernel
theorem dX11_person_97 : decode cX11_person 97 = .ok (.ireturn, 1) := by decide +kernel
theorem dX11_person_98 : decode cX11_person 98 = .ok (.bipush (-2), 2) := by decide +kernel
theorem dX11_person_100 : decode cX11_person 100 = .ok (.ireturn, 1) := by decide +kernel
theorem dX11_pair_0 : decode cX11_pair 0 = .ok (.aload_n 0, 1) := by decide +kernel
theorem dX11_pair_1 : decode cX11_pair 1 = .ok (.getfield 19, 3) := by decide +kernel
theorem dX11_pair_4 : decode cX11_pair 4 = .ok (.iload_n 1, 1) := by decide +kernel
theorem dX11_pair_5 : decode cX11_pair 5 = .ok (.invokevirtual 135, 3) := by decide +kernel
theorem dX11_pair_8 : decode cX11_pair 8 = .ok (.ifCond .ne 6, 3) := by decide +kernel
theorem dX11_pair_11 : decode cX11_pair 11 = .ok (.bipush (-2), 2) := by decide +kernel
theorem dX11_pair_13 : decode cX11_pair 13 = .ok (.ireturn, 1) := by decide +kernel
theorem dX11_pair_14 : decode cX11_pair 14 = .ok (.iload_n 2, 1) := by decide +kernel
theorem dX11_pair_15 : decode cX11_pair 15 = .ok (.tableswitch 61 0 2 #[25, 37, 51], 25) := by decide +kernel
theorem dX11_pair_40 : decode cX11_pair 40 = .ok (.aload_n 0, 1) := by decide +kernel
theorem dX11_pair_41 : decode cX11_pair 41 = .ok (.getfield 19, 3) := by decide +kernel
theorem dX11_pair_44 : decode cX11_pair 44 = .ok (.getfield 138, 3) := by decide +kernel
theorem dX11_pair_47 : decode cX11_pair 47 = .ok (.iconst 2, 1) := by decide +kernel
theorem dX11_pair_48 : decode cX11_pair 48 = .ok (.iload_n 1, 1) := by decide +kernel
theorem dX11_pair_49 : decode cX11_pair 49 = .ok (.imul, 1) := by decide +kernel
theorem dX11_pair_50 : decode cX11_pair 50 = .ok (.iaload, 1) := by decide +kernel
theorem dX11_pair_51 : decode cX11_pair 51 = .ok (.ireturn, 1) := by decide +kernel
theorem dX11_pair_52 : decode cX11_pair 52 = .ok (.aload_n 0, 1) := by decide +kernel
theorem dX11_pair_53 : decode cX11_pair 53 = .ok (.getfield 19, 3) := by decide +kernel
theorem dX11_pair_56 : decode cX11_pair 56 = .ok (.getfield 138, 3) := by decide +kernel
theorem dX11_pair_59 : decode cX11_pair 59 = .ok (.iconst 2, 1) := by decide +kernel
theorem dX11_pair_60 : decode cX11_pair 60 = .ok (.iload_n 1, 1) := by decide +kernel
theorem dX11_pair_61 : decode cX11_pair 61 = .ok (.imul, 1) := by decide +kernel
theorem dX11_pair_62 : decode cX11_pair 62 = .ok (.iconst 1, 1) := by decide +kernel
theorem dX11_pair_63 : decode cX11_pair 63 = .ok (.iadd, 1) := by decide +kernel
theorem dX11_pair_64 : decode cX11_pair 64 = .ok (.iaload, 1) := by decide +kernel
theorem dX11_pair_65 : decode cX11_pair 65 = .ok (.ireturn, 1) := by decide +kernel
theorem dX11_pair_66 : decode cX11_pair 66 = .ok (.aload_n 0, 1) := by decide +kernel
theorem dX11_pair_67 : decode cX11_pair 67 = .ok (.getfield 19, 3) := by decide +kernel
theorem dX11_pair_70 : decode cX11_pair 70 = .ok (.getfield 141, 3) := by decide +kernel
theorem dX11_pair_73 : decode cX11_pair 73 = .ok (.iload_n 1, 1) := by decide +kernel
theorem dX11_pair_74 : decode cX11_pair 74 = .ok (.iaload, 1) := by decide +kernel
theorem dX11_pair_75 : decode cX11_pair 75 = .ok (.ireturn, 1) := by decide +kernel
theorem dX11_pair_76 : decode cX11_pair 76 = .ok (.bipush (-2), 2) := by decide +kernel
theorem dX11_pair_78 : decode cX11_pair 78 = .ok (.ireturn, 1) := by decide +kernel
theorem dX11_cheapestRule_0 : decode cX11_cheapestRule 0 = .ok (.iconst 0, 1) := by decide +kernel
theorem dX11_cheapestRule_1 : decode cX11_cheapestRule 1 = .ok (.istore_n 2, 1) := by decide +kernel
theorem dX11_cheapestRule_2 : decode cX11_cheapestRule 2 = .ok (.aload_n 0, 1) := by decide +kernel
theorem dX11_cheapestRule_3 : decode cX11_cheapestRule 3 = .ok (.iload_n 1, 1) := by decide +kernel
theorem dX11_cheapestRule_4 : decode cX11_cheapestRule 4 = .ok (.iconst 0, 1) := by decide +kernel
theorem dX11_cheapestRule_5 : decode cX11_cheapestRule 5 = .ok (.invokevirtual 319, 3) := by decide +kernel
theorem dX11_cheapestRule_8 : decode cX11_cheapestRule 8 = .ok (.istore_n 3, 1) := by decide +kernel
theorem dX11_cheapestRule_9 : decode cX11_cheapestRule 9 = .ok (.iconst 1, 1) := by decide +kernel
theorem dX11_cheapestRule_10 : decode cX11_cheapestRule 10 = .ok (.istore 4, 2) := by decide +kernel
theorem dX11_cheapestRule_12 : decode cX11_cheapestRule 12 = .ok (.iload 4, 2) := by decide +kernel
theorem dX11_cheapestRule_14 : decode cX11_cheapestRule 14 = .ok (.bipush 32, 2) := by decide +kernel
theorem dX11_cheapestRule_16 : decode cX11_cheapestRule 16 = .ok (.if_icmp .ge 30, 3) := by decide +kernel
theorem dX11_cheapestRule_19 : decode cX11_cheapestRule 19 = .ok (.aload_n 0, 1) := by decide +kernel
theorem dX11_cheapestRule_20 : decode cX11_cheapestRule 20 = .ok (.iload_n 1, 1) := by decide +kernel
theorem dX11_cheapestRule_21 : decode cX11_cheapestRule 21 = .ok (.iload 4, 2) := by decide +kernel
theorem dX11_cheapestRule_23 : decode cX11_cheapestRule 23 = .ok (.invokevirtual 319, 3) := by decide +kernel
theorem dX11_cheapestRule_26 : decode cX11_cheapestRule 26 = .ok (.istore 5, 2) := by decide +kernel
theorem dX11_cheapestRule_28 : decode cX11_cheapestRule 28 = .ok (.iload 5, 2) := by decide +kernel
theorem dX11_cheapestRule_30 : decode cX11_cheapestRule 30 = .ok (.iload_n 3, 1) := by decide +kernel
theorem dX11_cheapestRule_31 : decode cX11_cheapestRule 31 = .ok (.if_icmp .ge 9, 3) := by decide +kernel
theorem dX11_cheapestRule_34 : decode cX11_cheapestRule 34 = .ok (.iload 5, 2) := by decide +kernel
theorem dX11_cheapestRule_36 : decode cX11_cheapestRule 36 = .ok (.istore_n 3, 1) := by decide +kernel
theorem dX11_cheapestRule_37 : decode cX11_cheapestRule 37 = .ok (.iload 4, 2) := by decide +kernel
theorem dX11_cheapestRule_39 : decode cX11_cheapestRule 39 = .ok (.istore_n 2, 1) := by decide +kernel
theorem dX11_cheapestRule_40 : decode cX11_cheapestRule 40 = .ok (.iinc 4 1, 3) := by decide +kernel
theorem dX11_cheapestRule_43 : decode cX11_cheapestRule 43 = .ok (.goto (-31), 3) := by decide +kernel
theorem dX11_cheapestRule_46 : decode cX11_cheapestRule 46 = .ok (.iload_n 2, 1) := by decide +kernel
theorem dX11_cheapestRule_47 : decode cX11_cheapestRule 47 = .ok (.ireturn, 1) := by decide +kernel
theorem dX11_costWith_0 : decode cX11_costWith 0 = .ok (.iconst 0, 1) := by decide +kernel
theorem dX11_costWith_1 : decode cX11_costWith 1 = .ok (.istore_n 3, 1) := by decide +kernel
theorem dX11_costWith_2 : decode cX11_costWith 2 = .ok (.iconst 0, 1) := by decide +kernel
theorem dX11_costWith_3 : decode cX11_costWith 3 = .ok (.istore 4, 2) := by decide +kernel
theorem dX11_costWith_5 : decode cX11_costWith 5 = .ok (.iload 4, 2) := by decide +kernel
theorem dX11_costWith_7 : decode cX11_costWith 7 = .ok (.aload_n 0, 1) := by decide +kernel
theorem dX11_costWith_8 : decode cX11_costWith 8 = .ok (.getfield 19, 3) := by decide +kernel
theorem dX11_costWith_11 : decode cX11_costWith 11 = .ok (.getfield 194, 3) := by decide +kernel
theorem dX11_costWith_14 : decode cX11_costWith 14 = .ok (.if_icmp .ge 181, 3) := by decide +kernel
theorem dX11_costWith_17 : decode cX11_costWith 17 = .ok (.iload_n 1, 1) := by decide +kernel
theorem dX11_costWith_18 : decode cX11_costWith 18 = .ok (.i2l, 1) := by decide +kernel
theorem dX11_costWith_19 : decode cX11_costWith 19 = .ok (.aload_n 0, 1) := by decide +kernel
theorem dX11_costWith_20 : decode cX11_costWith 20 = .ok (.getfield 19, 3) := by decide +kernel
theorem dX11_costWith_23 : decode cX11_costWith 23 = .ok (.getfield 138, 3) := by decide +kernel
theorem dX11_costWith_26 : decode cX11_costWith 26 = .ok (.iconst 2, 1) := by decide +kernel
theorem dX11_costWith_27 : decode cX11_costWith 27 = .ok (.iload 4, 2) := by decide +kernel
theorem dX11_costWith_29 : decode cX11_costWith 29 = .ok (.imul, 1) := by decide +kernel
theorem dX11_costWith_30 : decode cX11_costWith 30 = .ok (.iaload, 1) := by decide +kernel
theorem dX11_costWith_31 : decode cX11_costWith 31 = .ok (.invokestatic 167, 3) := by decide +kernel
theorem dX11_costWith_34 : decode cX11_costWith 34 = .ok (.istore 5, 2) := by decide +kernel
theorem dX11_costWith_36 : decode cX11_costWith 36 = .ok (.iload_n 1, 1) := by decide +kernel
theorem dX11_costWith_37 : decode cX11_costWith 37 = .ok (.i2l, 1) := by decide +kernel
theorem dX11_costWith_38 : decode cX11_costWith 38 = .ok (.aload_n 0, 1) := by decide +kernel
theorem dX11_costWith_39 : decode cX11_costWith 39 = .ok (.getfield 19, 3) := by decide +kernel
theorem dX11_costWith_42 : decode cX11_costWith 42 = .ok (.getfield 138, 3) := by decide +kernel
theorem dX11_costWith_45 : decode cX11_costWith 45 = .ok (.iconst 2, 1) := by decide +kernel
theorem dX11_costWith_46 : decode cX11_costWith 46 = .ok (.iload 4, 2) := by decide +kernel
theorem dX11_costWith_48 : decode cX11_costWith 48 = .ok (.imul, 1) := by decide +kernel
theorem dX11_costWith_49 : decode cX11_costWith 49 = .ok (.iconst 1, 1) := by decide +kernel
theorem dX11_costWith_50 : decode cX11_costWith 50 = .ok (.iadd, 1) := by decide +kernel
theorem dX11_costWith_51 : decode cX11_costWith 51 = .ok (.iaload, 1) := by decide +kernel
theorem dX11_costWith_52 : decode cX11_costWith 52 = .ok (.invokestatic 167, 3) := by decide +kernel
theorem dX11_costWith_55 : decode cX11_costWith 55 = .ok (.istore 6, 2) := by decide +kernel
theorem dX11_costWith_57 : decode cX11_costWith 57 = .ok (.iload 5, 2) := by decide +kernel
theorem dX11_costWith_59 : decode cX11_costWith 59 = .ok (.ifCond .ne 8, 3) := by decide +kernel
theorem dX11_costWith_62 : decode cX11_costWith 62 = .ok (.iload 6, 2) := by decide +kernel
theorem dX11_costWith_64 : decode cX11_costWith 64 = .ok (.ifCond .eq 125, 3) := by decide +kernel
theorem dX11_costWith_67 : decode cX11_costWith 67 = .ok (.aload_n 0, 1) := by decide +kernel
theorem dX11_costWith_68 : decode cX11_costWith 68 = .ok (.getfield 37, 3) := by decide +kernel
theorem dX11_costWith_71 : decode cX11_costWith 71 = .ok (.aload_n 0, 1) := by decide +kernel
theorem dX11_costWith_72 : decode cX11_costWith 72 = .ok (.getfield 19, 3) := by decide +kernel
theorem dX11_costWith_75 : decode cX11_costWith 75 = .ok (.iload 4, 2) := by decide +kernel
theorem dX11_costWith_77 : decode cX11_costWith 77 = .ok (.invokevirtual 328, 3) := by decide +kernel
theorem dX11_costWith_80 : decode cX11_costWith 80 = .ok (.aload_n 0, 1) := by decide +kernel
theorem dX11_costWith_81 : decode cX11_costWith 81 = .ok (.getfield 37, 3) := by decide +kernel
theorem dX11_costWith_84 : decode cX11_costWith 84 = .ok (.getfield 338, 3) := by decide +kernel
theorem dX11_costWith_87 : decode cX11_costWith 87 = .ok (.iconst 0, 1) := by decide +kernel
theorem dX11_costWith_88 : decode cX11_costWith 88 = .ok (.iload 5, 2) := by decide +kernel
theorem dX11_costWith_90 : decode cX11_costWith 90 = .ok (.ifCond .eq 7, 3) := by decide +kernel
theorem dX11_costWith_93 : decode cX11_costWith 93 = .ok (.iload_n 2, 1) := by decide +kernel
theorem dX11_costWith_94 : decode cX11_costWith 94 = .ok (.goto 12, 3) := by decide +kernel
theorem dX11_costWith_97 : decode cX11_costWith 97 = .ok (.aload_n 0, 1) := by decide +kernel
theorem dX11_costWith_98 : decode cX11_costWith 98 = .ok (.getfield 37, 3) := by decide +kernel
theorem dX11_costWith_101 : decode cX11_costWith 101 = .ok (.getfield 338, 3) := by decide +kernel
theorem dX11_costWith_104 : decode cX11_costWith 104 = .ok (.iconst 0, 1) := by decide +kernel
theorem dX11_costWith_105 : decode cX11_costWith 105 = .ok (.iaload, 1) := by decide +kernel
theorem dX11_costWith_106 : decode cX11_costWith 106 = .ok (.iastore, 1) := by decide +kernel
theorem dX11_costWith_107 : decode cX11_costWith 107 = .ok (.aload_n 0, 1) := by decide +kernel
theorem dX11_costWith_108 : decode cX11_costWith 108 = .ok (.getfield 37, 3) := by decide +kernel
theorem dX11_costWith_111 : decode cX11_costWith 111 = .ok (.getfield 338, 3) := by decide +kernel
theorem dX11_costWith_114 : decode cX11_costWith 114 = .ok (.iconst 1, 1) := by decide +kernel
theorem dX11_costWith_115 : decode cX11_costWith 115 = .ok (.iload 6, 2) := by decide +kernel
theorem dX11_costWith_117 : decode cX11_costWith 117 = .ok (.ifCond .eq 7, 3) := by decide +kernel
theorem dX11_costWith_120 : decode cX11_costWith 120 = .ok (.iload_n 2, 1) := by decide +kernel
theorem dX11_costWith_121 : decode cX11_costWith 121 = .ok (.goto 12, 3) := by decide +kernel
theorem dX11_costWith_124 : decode cX11_costWith 124 = .ok (.aload_n 0, 1) := by decide +kernel
theorem dX11_costWith_125 : decode cX11_costWith 125 = .ok (.getfield 37, 3) := by decide +kernel
theorem dX11_costWith_128 : decode cX11_costWith 128 = .ok (.getfield 338, 3) := by decide +kernel
theorem dX11_costWith_131 : decode cX11_costWith 131 = .ok (.iconst 1, 1) := by decide +kernel
theorem dX11_costWith_132 : decode cX11_costWith 132 = .ok (.iaload, 1) := by decide +kernel
theorem dX11_costWith_133 : decode cX11_costWith 133 = .ok (.iastore, 1) := by decide +kernel
theorem dX11_costWith_134 : decode cX11_costWith 134 = .ok (.aload_n 0, 1) := by decide +kernel
theorem dX11_costWith_135 : decode cX11_costWith 135 = .ok (.getfield 37, 3) := by decide +kernel
theorem dX11_costWith_138 : decode cX11_costWith 138 = .ok (.invokevirtual 430, 3) := by decide +kernel
theorem dX11_costWith_141 : decode cX11_costWith 141 = .ok (.iload_n 3, 1) := by decide +kernel
theorem dX11_costWith_142 : decode cX11_costWith 142 = .ok (.iload 5, 2) := by decide +kernel
theorem dX11_costWith_144 : decode cX11_costWith 144 = .ok (.ifCond .eq 18, 3) := by decide +kernel
theorem dX11_costWith_147 : decode cX11_costWith 147 = .ok (.aload_n 0, 1) := by decide +kernel
theorem dX11_costWith_148 : decode cX11_costWith 148 = .ok (.getfield 37, 3) := by decide +kernel
theorem dX11_costWith_151 : decode cX11_costWith 151 = .ok (.aload_n 0, 1) := by decide +kernel
theorem dX11_costWith_152 : decode cX11_costWith 152 = .ok (.getfield 19, 3) := by decide +kernel
theorem dX11_costWith_155 : decode cX11_costWith 155 = .ok (.iconst 0, 1) := by decide +kernel
theorem dX11_costWith_156 : decode cX11_costWith 156 = .ok (.invokevirtual 436, 3) := by decide +kernel
theorem dX11_costWith_159 : decode cX11_costWith 159 = .ok (.goto 4, 3) := by decide +kernel
theorem dX11_costWith_162 : decode cX11_costWith 162 = .ok (.iconst 0, 1) := by decide +kernel
theorem dX11_costWith_163 : decode cX11_costWith 163 = .ok (.iadd, 1) := by decide +kernel
theorem dX11_costWith_164 : decode cX11_costWith 164 = .ok (.istore_n 3, 1) := by decide +kernel
theorem dX11_costWith_165 : decode cX11_costWith 165 = .ok (.iload_n 3, 1) := by decide +kernel
theorem dX11_costWith_166 : decode cX11_costWith 166 = .ok (.iload 6, 2) := by decide +kernel
theorem dX11_costWith_168 : decode cX11_costWith 168 = .ok (.ifCond .eq 18, 3) := by decide +kernel
theorem dX11_costWith_171 : decode cX11_costWith 171 = .ok (.aload_n 0, 1) := by decide +kernel
theorem dX11_costWith_172 : decode cX11_costWith 172 = .ok (.getfield 37, 3) := by decide +kernel
theorem dX11_costWith_175 : decode cX11_costWith 175 = .ok (.aload_n 0, 1) := by decide +kernel
theorem dX11_costWith_176 : decode cX11_costWith 176 = .ok (.getfield 19, 3) := by decide +kernel
theorem dX11_costWith_179 : decode cX11_costWith 179 = .ok (.iconst 1, 1) := by decide +kernel
theorem dX11_costWith_180 : decode cX11_costWith 180 = .ok (.invokevirtual 436, 3) := by decide +kernel
theorem dX11_costWith_183 : decode cX11_costWith 183 = .ok (.goto 4, 3) := by decide +kernel
theorem dX11_costWith_186 : decode cX11_costWith 186 = .ok (.iconst 0, 1) := by decide +kernel
theorem dX11_costWith_187 : decode cX11_costWith 187 = .ok (.iadd, 1) := by decide +kernel
theorem dX11_costWith_188 : decode cX11_costWith 188 = .ok (.istore_n 3, 1) := by decide +kernel
theorem dX11_costWith_189 : decode cX11_costWith 189 = .ok (.iinc 4 1, 3) := by decide +kernel
theorem dX11_costWith_192 : decode cX11_costWith 192 = .ok (.goto (-187), 3) := by decide +kernel
theorem dX11_costWith_195 : decode cX11_costWith 195 = .ok (.iload_n 3, 1) := by decide +kernel
theorem dX11_costWith_196 : decode cX11_costWith 196 = .ok (.ireturn, 1) := by decide +kernel
theorem dX11_readSeen_0 : decode cX11_readSeen 0 = .ok (.iload_n 1, 1) := by decide +kernel
theorem dX11_readSeen_1 : decode cX11_readSeen 1 = .ok (.iconst 4, 1) := by decide +kernel
theorem dX11_readSeen_2 : decode cX11_readSeen 2 = .ok (.invokestatic 148, 3) := by decide +kernel
theorem dX11_readSeen_5 : decode cX11_readSeen 5 = .ok (.ifCond .eq 14, 3) := by decide +kernel
theorem dX11_readSeen_8 : decode cX11_readSeen 8 = .ok (.aload_n 0, 1) := by decide +kernel
theorem dX11_readSeen_9 : decode cX11_readSeen 9 = .ok (.getfield 19, 3) := by decide +kernel
theorem dX11_readSeen_12 : decode cX11_readSeen 12 = .ok (.iload_n 2, 1) := by decide +kernel
theorem dX11_readSeen_13 : decode cX11_readSeen 13 = .ok (.invokevirtual 135, 3) := by decide +kernel
theorem dX11_readSeen_16 : decode cX11_readSeen 16 = .ok (.ifCond .ne 6, 3) := by decide +kernel
theorem dX11_readSeen_19 : decode cX11_readSeen 19 = .ok (.bipush (-2), 2) := by decide +kernel
theorem dX11_readSeen_21 : decode cX11_readSeen 21 = .ok (.ireturn, 1) := by decide +kernel
theorem dX11_readSeen_22 : decode cX11_readSeen 22 = .ok (.aload_n 0, 1) := by decide +kernel
theorem dX11_readSeen_23 : decode cX11_readSeen 23 = .ok (.getfield 65, 3) := by decide +kernel
theorem dX11_readSeen_26 : decode cX11_readSeen 26 = .ok (.iload_n 1, 1) := by decide +kernel
theorem dX11_readSeen_27 : decode cX11_readSeen 27 = .ok (.invokevirtual 394, 3) := by decide +kernel
theorem dX11_readSeen_30 : decode cX11_readSeen 30 = .ok (.ifCond .ne 6, 3) := by decide +kernel
theorem dX11_readSeen_33 : decode cX11_readSeen 33 = .ok (.bipush (-6), 2) := by decide +kernel
theorem dX11_readSeen_35 : decode cX11_readSeen 35 = .ok (.ireturn, 1) := by decide +kernel
theorem dX11_readSeen_36 : decode cX11_readSeen 36 = .ok (.aload_n 0, 1) := by decide +kernel
theorem dX11_readSeen_37 : decode cX11_readSeen 37 = .ok (.getfield 72, 3) := by decide +kernel
theorem dX11_readSeen_40 : decode cX11_readSeen 40 = .ok (.aload_n 0, 1) := by decide +kernel
theorem dX11_readSeen_41 : decode cX11_readSeen 41 = .ok (.getfield 65, 3) := by decide +kernel
theorem dX11_readSeen_44 : decode cX11_readSeen 44 = .ok (.iload_n 1, 1) := by decide +kernel
theorem dX11_readSeen_45 : decode cX11_readSeen 45 = .ok (.aload_n 0, 1) := by decide +kernel
theorem dX11_readSeen_46 : decode cX11_readSeen 46 = .ok (.getfield 19, 3) := by decide +kernel
theorem dX11_readSeen_49 : decode cX11_readSeen 49 = .ok (.getfield 177, 3) := by decide +kernel
theorem dX11_readSeen_52 : decode cX11_readSeen 52 = .ok (.invokevirtual 437, 3) := by decide +kernel
theorem dX11_readSeen_55 : decode cX11_readSeen 55 = .ok (.ifCond .eq 7, 3) := by decide +kernel
theorem dX11_readSeen_58 : decode cX11_readSeen 58 = .ok (.iconst 0, 1) := by decide +kernel
theorem dX11_readSeen_59 : decode cX11_readSeen 59 = .ok (.goto 5, 3) := by decide +kernel
theorem dX11_readSeen_62 : decode cX11_readSeen 62 = .ok (.bipush (-2), 2) := by decide +kernel
theorem dX11_readSeen_64 : decode cX11_readSeen 64 = .ok (.ireturn, 1) := by decide +kernel
theorem dX11_trainIn_0 : decode cX11_trainIn 0 = .ok (.iload_n 3, 1) := by decide +kernel
theorem dX11_trainIn_1 : decode cX11_trainIn 1 = .ok (.ifCond .lt 9, 3) := by decide +kernel
theorem dX11_trainIn_4 : decode cX11_trainIn 4 = .ok (.iload_n 3, 1) := by decide +kernel
theorem dX11_trainIn_5 : decode cX11_trainIn 5 = .ok (.iload 4, 2) := by decide +kernel
theorem dX11_trainIn_7 : decode cX11_trainIn 7 = .ok (.if_icmp .le 6, 3) := by decide +kernel
theorem dX11_trainIn_10 : decode cX11_trainIn 10 = .ok (.bipush (-2), 2) := by decide +kernel
theorem dX11_trainIn_12 : decode cX11_trainIn 12 = .ok (.ireturn, 1) := by decide +kernel
theorem dX11_trainIn_13 : decode cX11_trainIn 13 = .ok (.aload_n 1, 1) := by decide +kernel
theorem dX11_trainIn_14 : decode cX11_trainIn 14 = .ok (.iload_n 2, 1) := by decide +kernel
theorem dX11_trainIn_15 : decode cX11_trainIn 15 = .ok (.iaload, 1) := by decide +kernel
theorem dX11_trainIn_16 : decode cX11_trainIn 16 = .ok (.istore 5, 2) := by decide +kernel
theorem dX11_trainIn_18 : decode cX11_trainIn 18 = .ok (.aload_n 1, 1) := by decide +kernel
theorem dX11_trainIn_19 : decode cX11_trainIn 19 = .ok (.iload_n 2, 1) := by decide +kernel
theorem dX11_trainIn_20 : decode cX11_trainIn 20 = .ok (.iload_n 3, 1) := by decide +kernel
theorem dX11_trainIn_21 : decode cX11_trainIn 21 = .ok (.iastore, 1) := by decide +kernel
theorem dX11_trainIn_22 : decode cX11_trainIn 22 = .ok (.aload_n 0, 1) := by decide +kernel
theorem dX11_trainIn_23 : decode cX11_trainIn 23 = .ok (.getfield 30, 3) := by decide +kernel
theorem dX11_trainIn_26 : decode cX11_trainIn 26 = .ok (.iconst 1, 1) := by decide +kernel
theorem dX11_trainIn_27 : decode cX11_trainIn 27 = .ok (.putfield 102, 3) := by decide +kernel
theorem dX11_trainIn_30 : decode cX11_trainIn 30 = .ok (.iload 5, 2) := by decide +kernel
theorem dX11_trainIn_32 : decode cX11_trainIn 32 = .ok (.ireturn, 1) := by decide +kernel
