theorem dX12_keepsYear_0 : decode cX12_keepsYear 0 = .ok (.iconst 0, 1) := by decide +kernel
theorem dX12_keepsYear_1 : decode cX12_keepsYear 1 = .ok (.istore 4, 2) := by decide +kernel
theorem dX12_keepsYear_3 : decode cX12_keepsYear 3 = .ok (.iload 4, 2) := by decide +kernel
theorem dX12_keepsYear_5 : decode cX12_keepsYear 5 = .ok (.iconst 2, 1) := by decide +kernel
theorem dX12_keepsYear_6 : decode cX12_keepsYear 6 = .ok (.if_icmp .ge 55, 3) := by decide +kernel
theorem dX12_keepsYear_9 : decode cX12_keepsYear 9 = .ok (.aload_n 0, 1) := by decide +kernel
theorem dX12_keepsYear_10 : decode cX12_keepsYear 10 = .ok (.getfield 77, 3) := by decide +kernel
theorem dX12_keepsYear_13 : decode cX12_keepsYear 13 = .ok (.bipush 32, 2) := by decide +kernel
theorem dX12_keepsYear_15 : decode cX12_keepsYear 15 = .ok (.iload_n 2, 1) := by decide +kernel
theorem dX12_keepsYear_16 : decode cX12_keepsYear 16 = .ok (.imul, 1) := by decide +kernel
theorem dX12_keepsYear_17 : decode cX12_keepsYear 17 = .ok (.iconst 2, 1) := by decide +kernel
theorem dX12_keepsYear_18 : decode cX12_keepsYear 18 = .ok (.iload_n 1, 1) := by decide +kernel
theorem dX12_keepsYear_19 : decode cX12_keepsYear 19 = .ok (.imul, 1) := by decide +kernel
theorem dX12_keepsYear_20 : decode cX12_keepsYear 20 = .ok (.iadd, 1) := by decide +kernel
theorem dX12_keepsYear_21 : decode cX12_keepsYear 21 = .ok (.iload 4, 2) := by decide +kernel
theorem dX12_keepsYear_23 : decode cX12_keepsYear 23 = .ok (.iadd, 1) := by decide +kernel
theorem dX12_keepsYear_24 : decode cX12_keepsYear 24 = .ok (.aload_n 0, 1) := by decide +kernel
theorem dX12_keepsYear_25 : decode cX12_keepsYear 25 = .ok (.getfield 62, 3) := by decide +kernel
theorem dX12_keepsYear_28 : decode cX12_keepsYear 28 = .ok (.iload 4, 2) := by decide +kernel
theorem dX12_keepsYear_30 : decode cX12_keepsYear 30 = .ok (.iaload, 1) := by decide +kernel
theorem dX12_keepsYear_31 : decode cX12_keepsYear 31 = .ok (.iastore, 1) := by decide +kernel
theorem dX12_keepsYear_32 : decode cX12_keepsYear 32 = .ok (.aload_n 0, 1) := by decide +kernel
theorem dX12_keepsYear_33 : decode cX12_keepsYear 33 = .ok (.getfield 80, 3) := by decide +kernel
theorem dX12_keepsYear_36 : decode cX12_keepsYear 36 = .ok (.bipush 32, 2) := by decide +kernel
theorem dX12_keepsYear_38 : decode cX12_keepsYear 38 = .ok (.iload_n 2, 1) := by decide +kernel
theorem dX12_keepsYear_39 : decode cX12_keepsYear 39 = .ok (.imul, 1) := by decide +kernel
theorem dX12_keepsYear_40 : decode cX12_keepsYear 40 = .ok (.iconst 2, 1) := by decide +kernel
theorem dX12_keepsYear_41 : decode cX12_keepsYear 41 = .ok (.iload_n 1, 1) := by decide +kernel
theorem dX12_keepsYear_42 : decode cX12_keepsYear 42 = .ok (.imul, 1) := by decide +kernel
theorem dX12_keepsYear_43 : decode cX12_keepsYear 43 = .ok (.iadd, 1) := by decide +kernel
theorem dX12_keepsYear_44 : decode cX12_keepsYear 44 = .ok (.iload 4, 2) := by decide +kernel
theorem dX12_keepsYear_46 : decode cX12_keepsYear 46 = .ok (.iadd, 1) := by decide +kernel
theorem dX12_keepsYear_47 : decode cX12_keepsYear 47 = .ok (.aload_n 0, 1) := by decide +kernel
theorem dX12_keepsYear_48 : decode cX12_keepsYear 48 = .ok (.getfield 65, 3) := by decide +kernel
theorem dX12_keepsYear_51 : decode cX12_keepsYear 51 = .ok (.iload 4, 2) := by decide +kernel
theorem dX12_keepsYear_53 : decode cX12_keepsYear 53 = .ok (.baload, 1) := by decide +kernel
theorem dX12_keepsYear_54 : decode cX12_keepsYear 54 = .ok (.bastore, 1) := by decide +kernel
theorem dX12_keepsYear_55 : decode cX12_keepsYear 55 = .ok (.iinc 4 1, 3) := by decide +kernel
theorem dX12_keepsYear_58 : decode cX12_keepsYear 58 = .ok (.goto (-55), 3) := by decide +kernel
theorem dX12_keepsYear_61 : decode cX12_keepsYear 61 = .ok (.aload_n 0, 1) := by decide +kernel
theorem dX12_keepsYear_62 : decode cX12_keepsYear 62 = .ok (.getfield 83, 3) := by decide +kernel
theorem dX12_keepsYear_65 : decode cX12_keepsYear 65 = .ok (.bipush 16, 2) := by decide +kernel
theorem dX12_keepsYear_67 : decode cX12_keepsYear 67 = .ok (.iload_n 2, 1) := by decide +kernel
theorem dX12_keepsYear_68 : decode cX12_keepsYear 68 = .ok (.iconst 1, 1) := by decide +kernel
theorem dX12_keepsYear_69 : decode cX12_keepsYear 69 = .ok (.iadd, 1) := by decide +kernel
theorem dX12_keepsYear_70 : decode cX12_keepsYear 70 = .ok (.imul, 1) := by decide +kernel
theorem dX12_keepsYear_71 : decode cX12_keepsYear 71 = .ok (.iload_n 1, 1) := by decide +kernel
theorem dX12_keepsYear_72 : decode cX12_keepsYear 72 = .ok (.iadd, 1) := by decide +kernel
theorem dX12_keepsYear_73 : decode cX12_keepsYear 73 = .ok (.iload_n 3, 1) := by decide +kernel
theorem dX12_keepsYear_74 : decode cX12_keepsYear 74 = .ok (.iastore, 1) := by decide +kernel
theorem dX12_keepsYear_75 : decode cX12_keepsYear 75 = .ok (.return_, 1) := by decide +kernel
theorem dX12_goes_0 : decode cX12_goes 0 = .ok (.iconst 0, 1) := by decide +kernel
theorem dX12_goes_1 : decode cX12_goes 1 = .ok (.istore_n 1, 1) := by decide +kernel
theorem dX12_goes_2 : decode cX12_goes 2 = .ok (.iload_n 1, 1) := by decide +kernel
theorem dX12_goes_3 : decode cX12_goes 3 = .ok (.aload_n 0, 1) := by decide +kernel
theorem dX12_goes_4 : decode cX12_goes 4 = .ok (.getfield 34, 3) := by decide +kernel
theorem dX12_goes_7 : decode cX12_goes 7 = .ok (.iconst 4, 1) := by decide +kernel
theorem dX12_goes_8 : decode cX12_goes 8 = .ok (.iaload, 1) := by decide +kernel
theorem dX12_goes_9 : decode cX12_goes 9 = .ok (.if_icmp .ge 25, 3) := by decide +kernel
theorem dX12_goes_12 : decode cX12_goes 12 = .ok (.aload_n 0, 1) := by decide +kernel
theorem dX12_goes_13 : decode cX12_goes 13 = .ok (.getfield 83, 3) := by decide +kernel
theorem dX12_goes_16 : decode cX12_goes 16 = .ok (.iload_n 1, 1) := by decide +kernel
theorem dX12_goes_17 : decode cX12_goes 17 = .ok (.aload_n 0, 1) := by decide +kernel
theorem dX12_goes_18 : decode cX12_goes 18 = .ok (.getfield 40, 3) := by decide +kernel
theorem dX12_goes_21 : decode cX12_goes 21 = .ok (.iconst 3, 1) := by decide +kernel
theorem dX12_goes_22 : decode cX12_goes 22 = .ok (.iload_n 1, 1) := by decide +kernel
theorem dX12_goes_23 : decode cX12_goes 23 = .ok (.imul, 1) := by decide +kernel
theorem dX12_goes_24 : decode cX12_goes 24 = .ok (.iconst 2, 1) := by decide +kernel
theorem dX12_goes_25 : decode cX12_goes 25 = .ok (.iadd, 1) := by decide +kernel
theorem dX12_goes_26 : decode cX12_goes 26 = .ok (.iaload, 1) := by decide +kernel
theorem dX12_goes_27 : decode cX12_goes 27 = .ok (.iastore, 1) := by decide +kernel
theorem dX12_goes_28 : decode cX12_goes 28 = .ok (.iinc 1 1, 3) := by decide +kernel
theorem dX12_goes_31 : decode cX12_goes 31 = .ok (.goto (-29), 3) := by decide +kernel
theorem dX12_goes_34 : decode cX12_goes 34 = .ok (.iconst 0, 1) := by decide +kernel
theorem dX12_goes_35 : decode cX12_goes 35 = .ok (.istore_n 1, 1) := by decide +kernel
theorem dX12_goes_36 : decode cX12_goes 36 = .ok (.iload_n 1, 1) := by decide +kernel
theorem dX12_goes_37 : decode cX12_goes 37 = .ok (.aload_n 0, 1) := by decide +kernel
theorem dX12_goes_38 : decode cX12_goes 38 = .ok (.getfield 34, 3) := by decide +kernel
theorem dX12_goes_41 : decode cX12_goes 41 = .ok (.iconst 0, 1) := by decide +kernel
theorem dX12_goes_42 : decode cX12_goes 42 = .ok (.iaload, 1) := by decide +kernel
theorem dX12_goes_43 : decode cX12_goes 43 = .ok (.if_icmp .ge 54, 3) := by decide +kernel
theorem dX12_goes_46 : decode cX12_goes 46 = .ok (.iconst 0, 1) := by decide +kernel
theorem dX12_goes_47 : decode cX12_goes 47 = .ok (.istore_n 2, 1) := by decide +kernel
theorem dX12_goes_48 : decode cX12_goes 48 = .ok (.iload_n 2, 1) := by decide +kernel
theorem dX12_goes_49 : decode cX12_goes 49 = .ok (.aload_n 0, 1) := by decide +kernel
theorem dX12_goes_50 : decode cX12_goes 50 = .ok (.getfield 34, 3) := by decide +kernel
theorem dX12_goes_53 : decode cX12_goes 53 = .ok (.iconst 4, 1) := by decide +kernel
theorem dX12_goes_54 : decode cX12_goes 54 = .ok (.iaload, 1) := by decide +kernel
theorem dX12_goes_55 : decode cX12_goes 55 = .ok (.if_icmp .ge 36, 3) := by decide +kernel
theorem dX12_goes_58 : decode cX12_goes 58 = .ok (.aload_n 0, 1) := by decide +kernel
theorem dX12_goes_59 : decode cX12_goes 59 = .ok (.iload_n 2, 1) := by decide +kernel
theorem dX12_goes_60 : decode cX12_goes 60 = .ok (.iload_n 1, 1) := by decide +kernel
theorem dX12_goes_61 : decode cX12_goes 61 = .ok (.invokevirtual 330, 3) := by decide +kernel
theorem dX12_goes_64 : decode cX12_goes 64 = .ok (.aload_n 0, 1) := by decide +kernel
theorem dX12_goes_65 : decode cX12_goes 65 = .ok (.iload_n 2, 1) := by decide +kernel
theorem dX12_goes_66 : decode cX12_goes 66 = .ok (.iload_n 1, 1) := by decide +kernel
theorem dX12_goes_67 : decode cX12_goes 67 = .ok (.aload_n 0, 1) := by decide +kernel
theorem dX12_goes_68 : decode cX12_goes 68 = .ok (.aload_n 0, 1) := by decide +kernel
theorem dX12_goes_69 : decode cX12_goes 69 = .ok (.getfield 83, 3) := by decide +kernel
theorem dX12_goes_72 : decode cX12_goes 72 = .ok (.bipush 16, 2) := by decide +kernel
theorem dX12_goes_74 : decode cX12_goes 74 = .ok (.iload_n 1, 1) := by decide +kernel
theorem dX12_goes_75 : decode cX12_goes 75 = .ok (.imul, 1) := by decide +kernel
theorem dX12_goes_76 : decode cX12_goes 76 = .ok (.iload_n 2, 1) := by decide +kernel
theorem dX12_goes_77 : decode cX12_goes 77 = .ok (.iadd, 1) := by decide +kernel
theorem dX12_goes_78 : decode cX12_goes 78 = .ok (.iaload, 1) := by decide +kernel
theorem dX12_goes_79 : decode cX12_goes 79 = .ok (.invokevirtual 333, 3) := by decide +kernel
theorem dX12_goes_82 : decode cX12_goes 82 = .ok (.invokevirtual 336, 3) := by decide +kernel
theorem dX12_goes_85 : decode cX12_goes 85 = .ok (.iinc 2 1, 3) := by decide +kernel
theorem dX12_goes_88 : decode cX12_goes 88 = .ok (.goto (-40), 3) := by decide +kernel
theorem dX12_goes_91 : decode cX12_goes 91 = .ok (.iinc 1 1, 3) := by decide +kernel
theorem dX12_goes_94 : decode cX12_goes 94 = .ok (.goto (-58), 3) := by decide +kernel
theorem dX12_goes_97 : decode cX12_goes 97 = .ok (.return_, 1) := by decide +kernel
theorem dX12_sentOf_0 : decode cX12_sentOf 0 = .ok (.aload_n 0, 1) := by decide +kernel
theorem dX12_sentOf_1 : decode cX12_sentOf 1 = .ok (.getfield 77, 3) := by decide +kernel
theorem dX12_sentOf_4 : decode cX12_sentOf 4 = .ok (.bipush 32, 2) := by decide +kernel
theorem dX12_sentOf_6 : decode cX12_sentOf 6 = .ok (.iload_n 3, 1) := by decide +kernel
theorem dX12_sentOf_7 : decode cX12_sentOf 7 = .ok (.imul, 1) := by decide +kernel
theorem dX12_sentOf_8 : decode cX12_sentOf 8 = .ok (.iconst 2, 1) := by decide +kernel
theorem dX12_sentOf_9 : decode cX12_sentOf 9 = .ok (.iload_n 1, 1) := by decide +kernel
theorem dX12_sentOf_10 : decode cX12_sentOf 10 = .ok (.imul, 1) := by decide +kernel
theorem dX12_sentOf_11 : decode cX12_sentOf 11 = .ok (.iadd, 1) := by decide +kernel
theorem dX12_sentOf_12 : decode cX12_sentOf 12 = .ok (.iload_n 2, 1) := by decide +kernel
theorem dX12_sentOf_13 : decode cX12_sentOf 13 = .ok (.iadd, 1) := by decide +kernel
theorem dX12_sentOf_14 : decode cX12_sentOf 14 = .ok (.iaload, 1) := by decide +kernel
theorem dX12_sentOf_15 : decode cX12_sentOf 15 = .ok (.ireturn, 1) := by decide +kernel
theorem dX12_gotOf_0 : decode cX12_gotOf 0 = .ok (.aload_n 0, 1) := by decide +kernel
theorem dX12_gotOf_1 : decode cX12_gotOf 1 = .ok (.getfield 80, 3) := by decide +kernel
theorem dX12_gotOf_4 : decode cX12_gotOf 4 = .ok (.bipush 32, 2) := by decide +kernel
theorem dX12_gotOf_6 : decode cX12_gotOf 6 = .ok (.iload_n 3, 1) := by decide +kernel
theorem dX12_gotOf_7 : decode cX12_gotOf 7 = .ok (.imul, 1) := by decide +kernel
theorem dX12_gotOf_8 : decode cX12_gotOf 8 = .ok (.iconst 2, 1) := by decide +kernel
theorem dX12_gotOf_9 : decode cX12_gotOf 9 = .ok (.iload_n 1, 1) := by decide +kernel
theorem dX12_gotOf_10 : decode cX12_gotOf 10 = .ok (.imul, 1) := by decide +kernel
theorem dX12_gotOf_11 : decode cX12_gotOf 11 = .ok (.iadd, 1) := by decide +kernel
theorem dX12_gotOf_12 : decode cX12_gotOf 12 = .ok (.iload_n 2, 1) := by decide +kernel
theorem dX12_gotOf_13 : decode cX12_gotOf 13 = .ok (.iadd, 1) := by decide +kernel
theorem dX12_gotOf_14 : decode cX12_gotOf 14 = .ok (.baload, 1) := by decide +kernel
theorem dX12_gotOf_15 : decode cX12_gotOf 15 = .ok (.ireturn, 1) := by decide +kernel
theorem dX12_sends_0 : decode cX12_sends 0 = .ok (.aload_n 0, 1) := by decide +kernel
theorem dX12_sends_1 : decode cX12_sends 1 = .ok (.iconst 0, 1) := by decide +kernel
theorem dX12_sends_2 : decode cX12_sends 2 = .ok (.putfield 107, 3) := by decide +kernel
theorem dX12_sends_5 : decode cX12_sends 5 = .ok (.aload_n 0, 1) := by decide +kernel
theorem dX12_sends_6 : decode cX12_sends 6 = .ok (.iload_n 1, 1) := by decide +kernel
theorem dX12_sends_7 : decode cX12_sends 7 = .ok (.invokevirtual 281, 3) := by decide +kernel
theorem dX12_sends_10 : decode cX12_sends 10 = .ok (.ifCond .eq 19, 3) := by decide +kernel
theorem dX12_sends_13 : decode cX12_sends 13 = .ok (.iload_n 2, 1) := by decide +kernel
theorem dX12_sends_14 : decode cX12_sends 14 = .ok (.invokestatic 340, 3) := by decide +kernel
theorem dX12_sends_17 : decode cX12_sends 17 = .ok (.ifCond .eq 12, 3) := by decide +kernel
theorem dX12_sends_20 : decode cX12_sends 20 = .ok (.aload_n 0, 1) := by decide +kernel
theorem dX12_sends_21 : decode cX12_sends 21 = .ok (.iload_n 3, 1) := by decide +kernel
theorem dX12_sends_22 : decode cX12_sends 22 = .ok (.i2l, 1) := by decide +kernel
theorem dX12_sends_23 : decode cX12_sends 23 = .ok (.invokevirtual 343, 3) := by decide +kernel
theorem dX12_sends_26 : decode cX12_sends 26 = .ok (.ifCond .ne 6, 3) := by decide +kernel
theorem dX12_sends_29 : decode cX12_sends 29 = .ok (.bipush (-2), 2) := by decide +kernel
theorem dX12_sends_31 : decode cX12_sends 31 = .ok (.ireturn, 1) := by decide +kernel
theorem dX12_sends_32 : decode cX12_sends 32 = .ok (.aload_n 0, 1) := by decide +kernel
theorem dX12_sends_33 : decode cX12_sends 33 = .ok (.invokevirtual 346, 3) := by decide +kernel
theorem dX12_sends_36 : decode cX12_sends 36 = .ok (.aload_n 0, 1) := by decide +kernel
theorem dX12_sends_37 : decode cX12_sends 37 = .ok (.iload_n 1, 1) := by decide +kernel
theorem dX12_sends_38 : decode cX12_sends 38 = .ok (.iload_n 2, 1) := by decide +kernel
theorem dX12_sends_39 : decode cX12_sends 39 = .ok (.iload_n 3, 1) := by decide +kernel
theorem dX12_sends_40 : decode cX12_sends 40 = .ok (.invokevirtual 349, 3) := by decide +kernel
theorem dX12_sends_43 : decode cX12_sends 43 = .ok (.ireturn, 1) := by decide +kernel
theorem dX12_got_0 : decode cX12_got 0 = .ok (.aload_n 0, 1) := by decide +kernel
theorem dX12_got_1 : decode cX12_got 1 = .ok (.iconst 0, 1) := by decide +kernel
theorem dX12_got_2 : decode cX12_got 2 = .ok (.putfield 107, 3) := by decide +kernel
theorem dX12_got_5 : decode cX12_got 5 = .ok (.aload_n 0, 1) := by decide +kernel
theorem dX12_got_6 : decode cX12_got 6 = .ok (.iload_n 1, 1) := by decide +kernel
theorem dX12_got_7 : decode cX12_got 7 = .ok (.invokevirtual 281, 3) := by decide +kernel
theorem dX12_got_10 : decode cX12_got 10 = .ok (.ifCond .eq 19, 3) := by decide +kernel
theorem dX12_got_13 : decode cX12_got 13 = .ok (.iload_n 2, 1) := by decide +kernel
theorem dX12_got_14 : decode cX12_got 14 = .ok (.invokestatic 340, 3) := by decide +kernel
theorem dX12_got_17 : decode cX12_got 17 = .ok (.ifCond .eq 12, 3) := by decide +kernel
theorem dX12_got_20 : decode cX12_got 20 = .ok (.aload_n 0, 1) := by decide +kernel
theorem dX12_got_21 : decode cX12_got 21 = .ok (.iload_n 3, 1) := by decide +kernel
theorem dX12_got_22 : decode cX12_got 22 = .ok (.i2l, 1) := by decide +kernel
theorem dX12_got_23 : decode cX12_got 23 = .ok (.invokevirtual 343, 3) := by decide +kernel
theorem dX12_got_26 : decode cX12_got 26 = .ok (.ifCond .ne 6, 3) := by decide +kernel
theorem dX12_got_29 : decode cX12_got 29 = .ok (.bipush (-2), 2) := by decide +kernel
theorem dX12_got_31 : decode cX12_got 31 = .ok (.ireturn, 1) := by decide +kernel
theorem dX12_got_32 : decode cX12_got 32 = .ok (.aload_n 0, 1) := by decide +kernel
theorem dX12_got_33 : decode cX12_got 33 = .ok (.invokevirtual 346, 3) := by decide +kernel
theorem dX12_got_36 : decode cX12_got 36 = .ok (.aload_n 0, 1) := by decide +kernel
theorem dX12_got_37 : decode cX12_got 37 = .ok (.iload_n 1, 1) := by decide +kernel
theorem dX12_got_38 : decode cX12_got 38 = .ok (.iload_n 2, 1) := by decide +kernel
theorem dX12_got_39 : decode cX12_got 39 = .ok (.iload_n 3, 1) := by decide +kernel
theorem dX12_got_40 : decode cX12_got 40 = .ok (.invokevirtual 352, 3) := by decide +kernel
theorem dX12_got_43 : decode cX12_got 43 = .ok (.ifCond .eq 7, 3) := by decide +kernel
theorem dX12_got_46 : decode cX12_got 46 = .ok (.iconst 1, 1) := by decide +kernel
theorem dX12_got_47 : decode cX12_got 47 = .ok (.goto 4, 3) := by decide +kernel
theorem dX12_got_50 : decode cX12_got 50 = .ok (.iconst 0, 1) := by decide +kernel
theorem dX12_got_51 : decode cX12_got 51 = .ok (.ireturn, 1) := by decide +kernel
