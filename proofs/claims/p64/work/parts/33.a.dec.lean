theorem dX1_goThrough_0 : decode cX1_goThrough 0 = .ok (.aload_n 0, 1) := by decide +kernel
theorem dX1_goThrough_1 : decode cX1_goThrough 1 = .ok (.aload_n 1, 1) := by decide +kernel
theorem dX1_goThrough_2 : decode cX1_goThrough 2 = .ok (.iload_n 2, 1) := by decide +kernel
theorem dX1_goThrough_3 : decode cX1_goThrough 3 = .ok (.iconst 0, 1) := by decide +kernel
theorem dX1_goThrough_4 : decode cX1_goThrough 4 = .ok (.invokevirtual 22, 3) := by decide +kernel
theorem dX1_goThrough_7 : decode cX1_goThrough 7 = .ok (.putfield 28, 3) := by decide +kernel
theorem dX1_goThrough_10 : decode cX1_goThrough 10 = .ok (.aload_n 0, 1) := by decide +kernel
theorem dX1_goThrough_11 : decode cX1_goThrough 11 = .ok (.aload_n 1, 1) := by decide +kernel
theorem dX1_goThrough_12 : decode cX1_goThrough 12 = .ok (.iload_n 2, 1) := by decide +kernel
theorem dX1_goThrough_13 : decode cX1_goThrough 13 = .ok (.iconst 1, 1) := by decide +kernel
theorem dX1_goThrough_14 : decode cX1_goThrough 14 = .ok (.invokevirtual 22, 3) := by decide +kernel
theorem dX1_goThrough_17 : decode cX1_goThrough 17 = .ok (.putfield 32, 3) := by decide +kernel
theorem dX1_goThrough_20 : decode cX1_goThrough 20 = .ok (.aload_n 0, 1) := by decide +kernel
theorem dX1_goThrough_21 : decode cX1_goThrough 21 = .ok (.getfield 9, 3) := by decide +kernel
theorem dX1_goThrough_24 : decode cX1_goThrough 24 = .ok (.iconst 0, 1) := by decide +kernel
theorem dX1_goThrough_25 : decode cX1_goThrough 25 = .ok (.aload_n 1, 1) := by decide +kernel
theorem dX1_goThrough_26 : decode cX1_goThrough 26 = .ok (.getfield 35, 3) := by decide +kernel
theorem dX1_goThrough_29 : decode cX1_goThrough 29 = .ok (.aload_n 1, 1) := by decide +kernel
theorem dX1_goThrough_30 : decode cX1_goThrough 30 = .ok (.getfield 36, 3) := by decide +kernel
theorem dX1_goThrough_33 : decode cX1_goThrough 33 = .ok (.iconst 2, 1) := by decide +kernel
theorem dX1_goThrough_34 : decode cX1_goThrough 34 = .ok (.iload_n 2, 1) := by decide +kernel
theorem dX1_goThrough_35 : decode cX1_goThrough 35 = .ok (.imul, 1) := by decide +kernel
theorem dX1_goThrough_36 : decode cX1_goThrough 36 = .ok (.iaload, 1) := by decide +kernel
theorem dX1_goThrough_37 : decode cX1_goThrough 37 = .ok (.iaload, 1) := by decide +kernel
theorem dX1_goThrough_38 : decode cX1_goThrough 38 = .ok (.iastore, 1) := by decide +kernel
theorem dX1_goThrough_39 : decode cX1_goThrough 39 = .ok (.aload_n 0, 1) := by decide +kernel
theorem dX1_goThrough_40 : decode cX1_goThrough 40 = .ok (.getfield 9, 3) := by decide +kernel
theorem dX1_goThrough_43 : decode cX1_goThrough 43 = .ok (.iconst 1, 1) := by decide +kernel
theorem dX1_goThrough_44 : decode cX1_goThrough 44 = .ok (.aload_n 1, 1) := by decide +kernel
theorem dX1_goThrough_45 : decode cX1_goThrough 45 = .ok (.getfield 35, 3) := by decide +kernel
theorem dX1_goThrough_48 : decode cX1_goThrough 48 = .ok (.aload_n 1, 1) := by decide +kernel
theorem dX1_goThrough_49 : decode cX1_goThrough 49 = .ok (.getfield 36, 3) := by decide +kernel
theorem dX1_goThrough_52 : decode cX1_goThrough 52 = .ok (.iconst 2, 1) := by decide +kernel
theorem dX1_goThrough_53 : decode cX1_goThrough 53 = .ok (.iload_n 2, 1) := by decide +kernel
theorem dX1_goThrough_54 : decode cX1_goThrough 54 = .ok (.imul, 1) := by decide +kernel
theorem dX1_goThrough_55 : decode cX1_goThrough 55 = .ok (.iconst 1, 1) := by decide +kernel
theorem dX1_goThrough_56 : decode cX1_goThrough 56 = .ok (.iadd, 1) := by decide +kernel
theorem dX1_goThrough_57 : decode cX1_goThrough 57 = .ok (.iaload, 1) := by decide +kernel
theorem dX1_goThrough_58 : decode cX1_goThrough 58 = .ok (.iaload, 1) := by decide +kernel
theorem dX1_goThrough_59 : decode cX1_goThrough 59 = .ok (.iastore, 1) := by decide +kernel
theorem dX1_goThrough_60 : decode cX1_goThrough 60 = .ok (.aload_n 0, 1) := by decide +kernel
theorem dX1_goThrough_61 : decode cX1_goThrough 61 = .ok (.lconst 1, 1) := by decide +kernel
theorem dX1_goThrough_62 : decode cX1_goThrough 62 = .ok (.putfield 39, 3) := by decide +kernel
theorem dX1_goThrough_65 : decode cX1_goThrough 65 = .ok (.aload_n 0, 1) := by decide +kernel
theorem dX1_goThrough_66 : decode cX1_goThrough 66 = .ok (.lconst 0, 1) := by decide +kernel
theorem dX1_goThrough_67 : decode cX1_goThrough 67 = .ok (.putfield 43, 3) := by decide +kernel
theorem dX1_goThrough_70 : decode cX1_goThrough 70 = .ok (.aload_n 0, 1) := by decide +kernel
theorem dX1_goThrough_71 : decode cX1_goThrough 71 = .ok (.getfield 15, 3) := by decide +kernel
theorem dX1_goThrough_74 : decode cX1_goThrough 74 = .ok (.lconst 0, 1) := by decide +kernel
theorem dX1_goThrough_75 : decode cX1_goThrough 75 = .ok (.invokestatic 46, 3) := by decide +kernel
theorem dX1_goThrough_78 : decode cX1_goThrough 78 = .ok (.aload_n 0, 1) := by decide +kernel
theorem dX1_goThrough_79 : decode cX1_goThrough 79 = .ok (.getfield 15, 3) := by decide +kernel
theorem dX1_goThrough_82 : decode cX1_goThrough 82 = .ok (.aload_n 1, 1) := by decide +kernel
theorem dX1_goThrough_83 : decode cX1_goThrough 83 = .ok (.getfield 52, 3) := by decide +kernel
theorem dX1_goThrough_86 : decode cX1_goThrough 86 = .ok (.iload_n 2, 1) := by decide +kernel
theorem dX1_goThrough_87 : decode cX1_goThrough 87 = .ok (.iaload, 1) := by decide +kernel
theorem dX1_goThrough_88 : decode cX1_goThrough 88 = .ok (.lconst 1, 1) := by decide +kernel
theorem dX1_goThrough_89 : decode cX1_goThrough 89 = .ok (.lastore, 1) := by decide +kernel
theorem dX1_goThrough_90 : decode cX1_goThrough 90 = .ok (.iconst 0, 1) := by decide +kernel
theorem dX1_goThrough_91 : decode cX1_goThrough 91 = .ok (.istore 4, 2) := by decide +kernel
theorem dX1_goThrough_93 : decode cX1_goThrough 93 = .ok (.iload 4, 2) := by decide +kernel
theorem dX1_goThrough_95 : decode cX1_goThrough 95 = .ok (.iload_n 3, 1) := by decide +kernel
theorem dX1_goThrough_96 : decode cX1_goThrough 96 = .ok (.if_icmp .ge 13, 3) := by decide +kernel
theorem dX1_goThrough_99 : decode cX1_goThrough 99 = .ok (.aload_n 0, 1) := by decide +kernel
theorem dX1_goThrough_100 : decode cX1_goThrough 100 = .ok (.invokevirtual 55, 3) := by decide +kernel
theorem dX1_goThrough_103 : decode cX1_goThrough 103 = .ok (.iinc 4 1, 3) := by decide +kernel
theorem dX1_goThrough_106 : decode cX1_goThrough 106 = .ok (.goto (-13), 3) := by decide +kernel
theorem dX1_goThrough_109 : decode cX1_goThrough 109 = .ok (.return_, 1) := by decide +kernel
theorem dX1_goThroughYear_0 : decode cX1_goThroughYear 0 = .ok (.aload_n 0, 1) := by decide +kernel
theorem dX1_goThroughYear_1 : decode cX1_goThroughYear 1 = .ok (.lconst 0, 1) := by decide +kernel
theorem dX1_goThroughYear_2 : decode cX1_goThroughYear 2 = .ok (.putfield 58, 3) := by decide +kernel
theorem dX1_goThroughYear_5 : decode cX1_goThroughYear 5 = .ok (.aload_n 0, 1) := by decide +kernel
theorem dX1_goThroughYear_6 : decode cX1_goThroughYear 6 = .ok (.lconst 0, 1) := by decide +kernel
theorem dX1_goThroughYear_7 : decode cX1_goThroughYear 7 = .ok (.putfield 61, 3) := by decide +kernel
theorem dX1_goThroughYear_10 : decode cX1_goThroughYear 10 = .ok (.aload_n 0, 1) := by decide +kernel
theorem dX1_goThroughYear_11 : decode cX1_goThroughYear 11 = .ok (.dup, 1) := by decide +kernel
theorem dX1_goThroughYear_12 : decode cX1_goThroughYear 12 = .ok (.getfield 43, 3) := by decide +kernel
theorem dX1_goThroughYear_15 : decode cX1_goThroughYear 15 = .ok (.ldc2_w 64, 3) := by decide +kernel
theorem dX1_goThroughYear_18 : decode cX1_goThroughYear 18 = .ok (.lmul, 1) := by decide +kernel
theorem dX1_goThroughYear_19 : decode cX1_goThroughYear 19 = .ok (.putfield 43, 3) := by decide +kernel
theorem dX1_goThroughYear_22 : decode cX1_goThroughYear 22 = .ok (.aload_n 0, 1) := by decide +kernel
theorem dX1_goThroughYear_23 : decode cX1_goThroughYear 23 = .ok (.dup, 1) := by decide +kernel
theorem dX1_goThroughYear_24 : decode cX1_goThroughYear 24 = .ok (.getfield 39, 3) := by decide +kernel
theorem dX1_goThroughYear_27 : decode cX1_goThroughYear 27 = .ok (.ldc2_w 64, 3) := by decide +kernel
theorem dX1_goThroughYear_30 : decode cX1_goThroughYear 30 = .ok (.lmul, 1) := by decide +kernel
theorem dX1_goThroughYear_31 : decode cX1_goThroughYear 31 = .ok (.putfield 39, 3) := by decide +kernel
theorem dX1_goThroughYear_34 : decode cX1_goThroughYear 34 = .ok (.aload_n 0, 1) := by decide +kernel
theorem dX1_goThroughYear_35 : decode cX1_goThroughYear 35 = .ok (.getfield 19, 3) := by decide +kernel
theorem dX1_goThroughYear_38 : decode cX1_goThroughYear 38 = .ok (.lconst 0, 1) := by decide +kernel
theorem dX1_goThroughYear_39 : decode cX1_goThroughYear 39 = .ok (.invokestatic 46, 3) := by decide +kernel
theorem dX1_goThroughYear_42 : decode cX1_goThroughYear 42 = .ok (.iconst 0, 1) := by decide +kernel
theorem dX1_goThroughYear_43 : decode cX1_goThroughYear 43 = .ok (.istore_n 1, 1) := by decide +kernel
theorem dX1_goThroughYear_44 : decode cX1_goThroughYear 44 = .ok (.iload_n 1, 1) := by decide +kernel
theorem dX1_goThroughYear_45 : decode cX1_goThroughYear 45 = .ok (.bipush 16, 2) := by decide +kernel
theorem dX1_goThroughYear_47 : decode cX1_goThroughYear 47 = .ok (.if_icmp .ge 25, 3) := by decide +kernel
theorem dX1_goThroughYear_50 : decode cX1_goThroughYear 50 = .ok (.aload_n 0, 1) := by decide +kernel
theorem dX1_goThroughYear_51 : decode cX1_goThroughYear 51 = .ok (.getfield 15, 3) := by decide +kernel
theorem dX1_goThroughYear_54 : decode cX1_goThroughYear 54 = .ok (.iload_n 1, 1) := by decide +kernel
theorem dX1_goThroughYear_55 : decode cX1_goThroughYear 55 = .ok (.laload, 1) := by decide +kernel
theorem dX1_goThroughYear_56 : decode cX1_goThroughYear 56 = .ok (.lconst 0, 1) := by decide +kernel
theorem dX1_goThroughYear_57 : decode cX1_goThroughYear 57 = .ok (.lcmp, 1) := by decide +kernel
theorem dX1_goThroughYear_58 : decode cX1_goThroughYear 58 = .ok (.ifCond .eq 8, 3) := by decide +kernel
theorem dX1_goThroughYear_61 : decode cX1_goThroughYear 61 = .ok (.aload_n 0, 1) := by decide +kernel
theorem dX1_goThroughYear_62 : decode cX1_goThroughYear 62 = .ok (.iload_n 1, 1) := by decide +kernel
theorem dX1_goThroughYear_63 : decode cX1_goThroughYear 63 = .ok (.invokevirtual 66, 3) := by decide +kernel
theorem dX1_goThroughYear_66 : decode cX1_goThroughYear 66 = .ok (.iinc 1 1, 3) := by decide +kernel
theorem dX1_goThroughYear_69 : decode cX1_goThroughYear 69 = .ok (.goto (-25), 3) := by decide +kernel
theorem dX1_goThroughYear_72 : decode cX1_goThroughYear 72 = .ok (.aload_n 0, 1) := by decide +kernel
theorem dX1_goThroughYear_73 : decode cX1_goThroughYear 73 = .ok (.getfield 15, 3) := by decide +kernel
theorem dX1_goThroughYear_76 : decode cX1_goThroughYear 76 = .ok (.astore_n 1, 1) := by decide +kernel
theorem dX1_goThroughYear_77 : decode cX1_goThroughYear 77 = .ok (.aload_n 0, 1) := by decide +kernel
theorem dX1_goThroughYear_78 : decode cX1_goThroughYear 78 = .ok (.aload_n 0, 1) := by decide +kernel
theorem dX1_goThroughYear_79 : decode cX1_goThroughYear 79 = .ok (.getfield 19, 3) := by decide +kernel
theorem dX1_goThroughYear_82 : decode cX1_goThroughYear 82 = .ok (.putfield 15, 3) := by decide +kernel
theorem dX1_goThroughYear_85 : decode cX1_goThroughYear 85 = .ok (.aload_n 0, 1) := by decide +kernel
theorem dX1_goThroughYear_86 : decode cX1_goThroughYear 86 = .ok (.aload_n 1, 1) := by decide +kernel
theorem dX1_goThroughYear_87 : decode cX1_goThroughYear 87 = .ok (.putfield 19, 3) := by decide +kernel
theorem dX1_goThroughYear_90 : decode cX1_goThroughYear 90 = .ok (.return_, 1) := by decide +kernel
theorem dX1_goOnFrom_0 : decode cX1_goOnFrom 0 = .ok (.aload_n 0, 1) := by decide +kernel
theorem dX1_goOnFrom_1 : decode cX1_goOnFrom 1 = .ok (.getfield 28, 3) := by decide +kernel
theorem dX1_goOnFrom_4 : decode cX1_goOnFrom 4 = .ok (.aload_n 0, 1) := by decide +kernel
theorem dX1_goOnFrom_5 : decode cX1_goOnFrom 5 = .ok (.getfield 32, 3) := by decide +kernel
theorem dX1_goOnFrom_8 : decode cX1_goOnFrom 8 = .ok (.iload_n 1, 1) := by decide +kernel
theorem dX1_goOnFrom_9 : decode cX1_goOnFrom 9 = .ok (.invokestatic 70, 3) := by decide +kernel
theorem dX1_goOnFrom_12 : decode cX1_goOnFrom 12 = .ok (.istore_n 2, 1) := by decide +kernel
theorem dX1_goOnFrom_13 : decode cX1_goOnFrom 13 = .ok (.iconst 0, 1) := by decide +kernel
theorem dX1_goOnFrom_14 : decode cX1_goOnFrom 14 = .ok (.istore_n 3, 1) := by decide +kernel
theorem dX1_goOnFrom_15 : decode cX1_goOnFrom 15 = .ok (.iload_n 3, 1) := by decide +kernel
theorem dX1_goOnFrom_16 : decode cX1_goOnFrom 16 = .ok (.iconst 3, 1) := by decide +kernel
theorem dX1_goOnFrom_17 : decode cX1_goOnFrom 17 = .ok (.if_icmp .gt 114, 3) := by decide +kernel
theorem dX1_goOnFrom_20 : decode cX1_goOnFrom 20 = .ok (.aload_n 0, 1) := by decide +kernel
theorem dX1_goOnFrom_21 : decode cX1_goOnFrom 21 = .ok (.getfield 15, 3) := by decide +kernel
theorem dX1_goOnFrom_24 : decode cX1_goOnFrom 24 = .ok (.iload_n 1, 1) := by decide +kernel
theorem dX1_goOnFrom_25 : decode cX1_goOnFrom 25 = .ok (.laload, 1) := by decide +kernel
theorem dX1_goOnFrom_26 : decode cX1_goOnFrom 26 = .ok (.aload_n 0, 1) := by decide +kernel
theorem dX1_goOnFrom_27 : decode cX1_goOnFrom 27 = .ok (.iload_n 2, 1) := by decide +kernel
theorem dX1_goOnFrom_28 : decode cX1_goOnFrom 28 = .ok (.iload_n 3, 1) := by decide +kernel
theorem dX1_goOnFrom_29 : decode cX1_goOnFrom 29 = .ok (.iconst 0, 1) := by decide +kernel
theorem dX1_goOnFrom_30 : decode cX1_goOnFrom 30 = .ok (.invokevirtual 76, 3) := by decide +kernel
theorem dX1_goOnFrom_33 : decode cX1_goOnFrom 33 = .ok (.i2l, 1) := by decide +kernel
theorem dX1_goOnFrom_34 : decode cX1_goOnFrom 34 = .ok (.lmul, 1) := by decide +kernel
theorem dX1_goOnFrom_35 : decode cX1_goOnFrom 35 = .ok (.aload_n 0, 1) := by decide +kernel
theorem dX1_goOnFrom_36 : decode cX1_goOnFrom 36 = .ok (.iload_n 2, 1) := by decide +kernel
theorem dX1_goOnFrom_37 : decode cX1_goOnFrom 37 = .ok (.iload_n 3, 1) := by decide +kernel
theorem dX1_goOnFrom_38 : decode cX1_goOnFrom 38 = .ok (.iconst 1, 1) := by decide +kernel
theorem dX1_goOnFrom_39 : decode cX1_goOnFrom 39 = .ok (.invokevirtual 76, 3) := by decide +kernel
theorem dX1_goOnFrom_42 : decode cX1_goOnFrom 42 = .ok (.i2l, 1) := by decide +kernel
theorem dX1_goOnFrom_43 : decode cX1_goOnFrom 43 = .ok (.lmul, 1) := by decide +kernel
theorem dX1_goOnFrom_44 : decode cX1_goOnFrom 44 = .ok (.lstore 4, 2) := by decide +kernel
theorem dX1_goOnFrom_46 : decode cX1_goOnFrom 46 = .ok (.iload_n 3, 1) := by decide +kernel
theorem dX1_goOnFrom_47 : decode cX1_goOnFrom 47 = .ok (.aload_n 0, 1) := by decide +kernel
theorem dX1_goOnFrom_48 : decode cX1_goOnFrom 48 = .ok (.getfield 28, 3) := by decide +kernel
theorem dX1_goOnFrom_51 : decode cX1_goOnFrom 51 = .ok (.aload_n 0, 1) := by decide +kernel
theorem dX1_goOnFrom_52 : decode cX1_goOnFrom 52 = .ok (.getfield 32, 3) := by decide +kernel
theorem dX1_goOnFrom_55 : decode cX1_goOnFrom 55 = .ok (.invokestatic 79, 3) := by decide +kernel
theorem dX1_goOnFrom_58 : decode cX1_goOnFrom 58 = .ok (.iconst 3, 1) := by decide +kernel
theorem dX1_goOnFrom_59 : decode cX1_goOnFrom 59 = .ok (.invokestatic 82, 3) := by decide +kernel
theorem dX1_goOnFrom_62 : decode cX1_goOnFrom 62 = .ok (.istore 6, 2) := by decide +kernel
theorem dX1_goOnFrom_64 : decode cX1_goOnFrom 64 = .ok (.iload 6, 2) := by decide +kernel
theorem dX1_goOnFrom_66 : decode cX1_goOnFrom 66 = .ok (.ifCond .ne 18, 3) := by decide +kernel
theorem dX1_goOnFrom_69 : decode cX1_goOnFrom 69 = .ok (.aload_n 0, 1) := by decide +kernel
theorem dX1_goOnFrom_70 : decode cX1_goOnFrom 70 = .ok (.iload_n 1, 1) := by decide +kernel
theorem dX1_goOnFrom_71 : decode cX1_goOnFrom 71 = .ok (.iload_n 3, 1) := by decide +kernel
theorem dX1_goOnFrom_72 : decode cX1_goOnFrom 72 = .ok (.lload 4, 2) := by decide +kernel
theorem dX1_goOnFrom_74 : decode cX1_goOnFrom 74 = .ok (.ldc2_w 85, 3) := by decide +kernel
theorem dX1_goOnFrom_77 : decode cX1_goOnFrom 77 = .ok (.lmul, 1) := by decide +kernel
theorem dX1_goOnFrom_78 : decode cX1_goOnFrom 78 = .ok (.invokevirtual 87, 3) := by decide +kernel
theorem dX1_goOnFrom_81 : decode cX1_goOnFrom 81 = .ok (.goto 44, 3) := by decide +kernel
theorem dX1_goOnFrom_84 : decode cX1_goOnFrom 84 = .ok (.aload_n 0, 1) := by decide +kernel
theorem dX1_goOnFrom_85 : decode cX1_goOnFrom 85 = .ok (.getfield 9, 3) := by decide +kernel
theorem dX1_goOnFrom_88 : decode cX1_goOnFrom 88 = .ok (.iload 6, 2) := by decide +kernel
theorem dX1_goOnFrom_90 : decode cX1_goOnFrom 90 = .ok (.iconst 1, 1) := by decide +kernel
theorem dX1_goOnFrom_91 : decode cX1_goOnFrom 91 = .ok (.ishr, 1) := by decide +kernel
theorem dX1_goOnFrom_92 : decode cX1_goOnFrom 92 = .ok (.iaload, 1) := by decide +kernel
theorem dX1_goOnFrom_93 : decode cX1_goOnFrom 93 = .ok (.istore 7, 2) := by decide +kernel
theorem dX1_goOnFrom_95 : decode cX1_goOnFrom 95 = .ok (.aload_n 0, 1) := by decide +kernel
theorem dX1_goOnFrom_96 : decode cX1_goOnFrom 96 = .ok (.iload_n 1, 1) := by decide +kernel
theorem dX1_goOnFrom_97 : decode cX1_goOnFrom 97 = .ok (.iload_n 3, 1) := by decide +kernel
theorem dX1_goOnFrom_98 : decode cX1_goOnFrom 98 = .ok (.lload 4, 2) := by decide +kernel
theorem dX1_goOnFrom_100 : decode cX1_goOnFrom 100 = .ok (.iload 7, 2) := by decide +kernel
theorem dX1_goOnFrom_102 : decode cX1_goOnFrom 102 = .ok (.i2l, 1) := by decide +kernel
theorem dX1_goOnFrom_103 : decode cX1_goOnFrom 103 = .ok (.lmul, 1) := by decide +kernel
theorem dX1_goOnFrom_104 : decode cX1_goOnFrom 104 = .ok (.invokevirtual 87, 3) := by decide +kernel
theorem dX1_goOnFrom_107 : decode cX1_goOnFrom 107 = .ok (.aload_n 0, 1) := by decide +kernel
theorem dX1_goOnFrom_108 : decode cX1_goOnFrom 108 = .ok (.iload_n 1, 1) := by decide +kernel
theorem dX1_goOnFrom_109 : decode cX1_goOnFrom 109 = .ok (.iload_n 3, 1) := by decide +kernel
theorem dX1_goOnFrom_110 : decode cX1_goOnFrom 110 = .ok (.iload 6, 2) := by decide +kernel
theorem dX1_goOnFrom_112 : decode cX1_goOnFrom 112 = .ok (.ior, 1) := by decide +kernel
theorem dX1_goOnFrom_113 : decode cX1_goOnFrom 113 = .ok (.lload 4, 2) := by decide +kernel
theorem dX1_goOnFrom_115 : decode cX1_goOnFrom 115 = .ok (.bipush 100, 2) := by decide +kernel
theorem dX1_goOnFrom_117 : decode cX1_goOnFrom 117 = .ok (.iload 7, 2) := by decide +kernel
theorem dX1_goOnFrom_119 : decode cX1_goOnFrom 119 = .ok (.isub, 1) := by decide +kernel
theorem dX1_goOnFrom_120 : decode cX1_goOnFrom 120 = .ok (.i2l, 1) := by decide +kernel
theorem dX1_goOnFrom_121 : decode cX1_goOnFrom 121 = .ok (.lmul, 1) := by decide +kernel
theorem dX1_goOnFrom_122 : decode cX1_goOnFrom 122 = .ok (.invokevirtual 87, 3) := by decide +kernel
theorem dX1_goOnFrom_125 : decode cX1_goOnFrom 125 = .ok (.iinc 3 1, 3) := by decide +kernel
theorem dX1_goOnFrom_128 : decode cX1_goOnFrom 128 = .ok (.goto (-113), 3) := by decide +kernel
theorem dX1_goOnFrom_131 : decode cX1_goOnFrom 131 = .ok (.return_, 1) := by decide +kernel
theorem dX1_hundredths_0 : decode cX1_hundredths 0 = .ok (.iload_n 1, 1) := by decide +kernel
theorem dX1_hundredths_1 : decode cX1_hundredths 1 = .ok (.iload_n 3, 1) := by decide +kernel
theorem dX1_hundredths_2 : decode cX1_hundredths 2 = .ok (.ishr, 1) := by decide +kernel
theorem dX1_hundredths_3 : decode cX1_hundredths 3 = .ok (.iconst 1, 1) := by decide +kernel
theorem dX1_hundredths_4 : decode cX1_hundredths 4 = .ok (.iand, 1) := by decide +kernel
theorem dX1_hundredths_5 : decode cX1_hundredths 5 = .ok (.iconst 1, 1) := by decide +kernel
theorem dX1_hundredths_6 : decode cX1_hundredths 6 = .ok (.if_icmp .ne 15, 3) := by decide +kernel
theorem dX1_hundredths_9 : decode cX1_hundredths 9 = .ok (.bipush 100, 2) := by decide +kernel
theorem dX1_hundredths_11 : decode cX1_hundredths 11 = .ok (.aload_n 0, 1) := by decide +kernel
theorem dX1_hundredths_12 : decode cX1_hundredths 12 = .ok (.getfield 9, 3) := by decide +kernel
theorem dX1_hundredths_15 : decode cX1_hundredths 15 = .ok (.iload_n 3, 1) := by decide +kernel
theorem dX1_hundredths_16 : decode cX1_hundredths 16 = .ok (.iaload, 1) := by decide +kernel
theorem dX1_hundredths_17 : decode cX1_hundredths 17 = .ok (.isub, 1) := by decide +kernel
theorem dX1_hundredths_18 : decode cX1_hundredths 18 = .ok (.goto 4, 3) := by decide +kernel
theorem dX1_hundredths_21 : decode cX1_hundredths 21 = .ok (.iconst 0, 1) := by decide +kernel
theorem dX1_hundredths_22 : decode cX1_hundredths 22 = .ok (.istore 4, 2) := by decide +kernel
theorem dX1_hundredths_24 : decode cX1_hundredths 24 = .ok (.iload_n 2, 1) := by decide +kernel
theorem dX1_hundredths_25 : decode cX1_hundredths 25 = .ok (.iload_n 3, 1) := by decide +kernel
theorem dX1_hundredths_26 : decode cX1_hundredths 26 = .ok (.ishr, 1) := by decide +kernel
theorem dX1_hundredths_27 : decode cX1_hundredths 27 = .ok (.iconst 1, 1) := by decide +kernel
theorem dX1_hundredths_28 : decode cX1_hundredths 28 = .ok (.iand, 1) := by decide +kernel
theorem dX1_hundredths_29 : decode cX1_hundredths 29 = .ok (.iconst 1, 1) := by decide +kernel
theorem dX1_hundredths_30 : decode cX1_hundredths 30 = .ok (.if_icmp .ne 8, 3) := by decide +kernel
theorem dX1_hundredths_33 : decode cX1_hundredths 33 = .ok (.iload 4, 2) := by decide +kernel
theorem dX1_hundredths_35 : decode cX1_hundredths 35 = .ok (.goto 8, 3) := by decide +kernel
theorem dX1_hundredths_38 : decode cX1_hundredths 38 = .ok (.bipush 100, 2) := by decide +kernel
theorem dX1_hundredths_40 : decode cX1_hundredths 40 = .ok (.iload 4, 2) := by decide +kernel
theorem dX1_hundredths_42 : decode cX1_hundredths 42 = .ok (.isub, 1) := by decide +kernel
theorem dX1_hundredths_43 : decode cX1_hundredths 43 = .ok (.ireturn, 1) := by decide +kernel
theorem dX1_note_0 : decode cX1_note 0 = .ok (.aload_n 0, 1) := by decide +kernel
theorem dX1_note_1 : decode cX1_note 1 = .ok (.dup, 1) := by decide +kernel
theorem dX1_note_2 : decode cX1_note 2 = .ok (.getfield 58, 3) := by decide +kernel
theorem dX1_note_5 : decode cX1_note 5 = .ok (.iload_n 2, 1) := by decide +kernel
theorem dX1_note_6 : decode cX1_note 6 = .ok (.ifCond .ne 7, 3) := by decide +kernel
theorem dX1_note_9 : decode cX1_note 9 = .ok (.lconst 0, 1) := by decide +kernel
theorem dX1_note_10 : decode cX1_note 10 = .ok (.goto 4, 3) := by decide +kernel
theorem dX1_note_13 : decode cX1_note 13 = .ok (.lload_n 3, 1) := by decide +kernel
theorem dX1_note_14 : decode cX1_note 14 = .ok (.ladd, 1) := by decide +kernel
theorem dX1_note_15 : decode cX1_note 15 = .ok (.putfield 58, 3) := by decide +kernel
theorem dX1_note_18 : decode cX1_note 18 = .ok (.aload_n 0, 1) := by decide +kernel
theorem dX1_note_19 : decode cX1_note 19 = .ok (.dup, 1) := by decide +kernel
theorem dX1_note_20 : decode cX1_note 20 = .ok (.getfield 61, 3) := by decide +kernel
theorem dX1_note_23 : decode cX1_note 23 = .ok (.iload_n 2, 1) := by decide +kernel
theorem dX1_note_24 : decode cX1_note 24 = .ok (.iconst 3, 1) := by decide +kernel
theorem dX1_note_25 : decode cX1_note 25 = .ok (.if_icmp .ne 7, 3) := by decide +kernel
theorem dX1_note_28 : decode cX1_note 28 = .ok (.lload_n 3, 1) := by decide +kernel
theorem dX1_note_29 : decode cX1_note 29 = .ok (.goto 4, 3) := by decide +kernel
theorem dX1_note_32 : decode cX1_note 32 = .ok (.lconst 0, 1) := by decide +kernel
theorem dX1_note_33 : decode cX1_note 33 = .ok (.ladd, 1) := by decide +kernel
theorem dX1_note_34 : decode cX1_note 34 = .ok (.putfield 61, 3) := by decide +kernel
theorem dX1_note_37 : decode cX1_note 37 = .ok (.aload_n 0, 1) := by decide +kernel
theorem dX1_note_38 : decode cX1_note 38 = .ok (.dup, 1) := by decide +kernel
theorem dX1_note_39 : decode cX1_note 39 = .ok (.getfield 43, 3) := by decide +kernel
theorem dX1_note_42 : decode cX1_note 42 = .ok (.iload_n 2, 1) := by decide +kernel
theorem dX1_note_43 : decode cX1_note 43 = .ok (.invokestatic 91, 3) := by decide +kernel
theorem dX1_note_46 : decode cX1_note 46 = .ok (.i2l, 1) := by decide +kernel
theorem dX1_note_47 : decode cX1_note 47 = .ok (.lload_n 3, 1) := by decide +kernel
theorem dX1_note_48 : decode cX1_note 48 = .ok (.lmul, 1) := by decide +kernel
theorem dX1_note_49 : decode cX1_note 49 = .ok (.ladd, 1) := by decide +kernel
theorem dX1_note_50 : decode cX1_note 50 = .ok (.putfield 43, 3) := by decide +kernel
theorem dX1_note_53 : decode cX1_note 53 = .ok (.aload_n 0, 1) := by decide +kernel
theorem dX1_note_54 : decode cX1_note 54 = .ok (.getfield 19, 3) := by decide +kernel
theorem dX1_note_57 : decode cX1_note 57 = .ok (.iload_n 1, 1) := by decide +kernel
theorem dX1_note_58 : decode cX1_note 58 = .ok (.iload_n 2, 1) := by decide +kernel
theorem dX1_note_59 : decode cX1_note 59 = .ok (.invokestatic 97, 3) := by decide +kernel
theorem dX1_note_62 : decode cX1_note 62 = .ok (.invokestatic 100, 3) := by decide +kernel
theorem dX1_note_65 : decode cX1_note 65 = .ok (.dup2, 1) := by decide +kernel
theorem dX1_note_66 : decode cX1_note 66 = .ok (.laload, 1) := by decide +kernel
theorem dX1_note_67 : decode cX1_note 67 = .ok (.lload_n 3, 1) := by decide +kernel
theorem dX1_note_68 : decode cX1_note 68 = .ok (.ladd, 1) := by decide +kernel
theorem dX1_note_69 : decode cX1_note 69 = .ok (.lastore, 1) := by decide +kernel
theorem dX1_note_70 : decode cX1_note 70 = .ok (.return_, 1) := by decide +kernel
theorem dX1_fraction_0 : decode cX1_fraction 0 = .ok (.lload_n 1, 1) := by decide +kernel
theorem dX1_fraction_1 : decode cX1_fraction 1 = .ok (.aload_n 0, 1) := by decide +kernel
theorem dX1_fraction_2 : decode cX1_fraction 2 = .ok (.getfield 39, 3) := by decide +kernel
theorem dX1_fraction_5 : decode cX1_fraction 5 = .ok (.invokestatic 103, 3) := by decide +kernel
theorem dX1_fraction_8 : decode cX1_fraction 8 = .ok (.lstore 4, 2) := by decide +kernel
theorem dX1_fraction_10 : decode cX1_fraction 10 = .ok (.lload 4, 2) := by decide +kernel
theorem dX1_fraction_12 : decode cX1_fraction 12 = .ok (.lconst 0, 1) := by decide +kernel
theorem dX1_fraction_13 : decode cX1_fraction 13 = .ok (.lcmp, 1) := by decide +kernel
theorem dX1_fraction_14 : decode cX1_fraction 14 = .ok (.ifCond .ne 7, 3) := by decide +kernel
theorem dX1_fraction_17 : decode cX1_fraction 17 = .ok (.ldc2_w 107, 3) := by decide +kernel
theorem dX1_fraction_20 : decode cX1_fraction 20 = .ok (.lreturn, 1) := by decide +kernel
theorem dX1_fraction_21 : decode cX1_fraction 21 = .ok (.iload_n 3, 1) := by decide +kernel
theorem dX1_fraction_22 : decode cX1_fraction 22 = .ok (.ifCond .ne 7, 3) := by decide +kernel
theorem dX1_fraction_25 : decode cX1_fraction 25 = .ok (.lload_n 1, 1) := by decide +kernel
theorem dX1_fraction_26 : decode cX1_fraction 26 = .ok (.goto 7, 3) := by decide +kernel
theorem dX1_fraction_29 : decode cX1_fraction 29 = .ok (.aload_n 0, 1) := by decide +kernel
theorem dX1_fraction_30 : decode cX1_fraction 30 = .ok (.getfield 39, 3) := by decide +kernel
theorem dX1_fraction_33 : decode cX1_fraction 33 = .ok (.lload 4, 2) := by decide +kernel
theorem dX1_fraction_35 : decode cX1_fraction 35 = .ok (.ldiv, 1) := by decide +kernel
theorem dX1_fraction_36 : decode cX1_fraction 36 = .ok (.lreturn, 1) := by decide +kernel
theorem dX1_commonDivisor_0 : decode cX1_commonDivisor 0 = .ok (.lload_n 0, 1) := by decide +kernel
theorem dX1_commonDivisor_1 : decode cX1_commonDivisor 1 = .ok (.lstore 4, 2) := by decide +kernel
theorem dX1_commonDivisor_3 : decode cX1_commonDivisor 3 = .ok (.lload_n 2, 1) := by decide +kernel
theorem dX1_commonDivisor_4 : decode cX1_commonDivisor 4 = .ok (.lstore 6, 2) := by decide +kernel
theorem dX1_commonDivisor_6 : decode cX1_commonDivisor 6 = .ok (.iconst 0, 1) := by decide +kernel
theorem dX1_commonDivisor_7 : decode cX1_commonDivisor 7 = .ok (.istore 8, 2) := by decide +kernel
theorem dX1_commonDivisor_9 : decode cX1_commonDivisor 9 = .ok (.iload 8, 2) := by decide +kernel
theorem dX1_commonDivisor_11 : decode cX1_commonDivisor 11 = .ok (.sipush 200, 3) := by decide +kernel
theorem dX1_commonDivisor_14 : decode cX1_commonDivisor 14 = .ok (.if_icmp .ge 31, 3) := by decide +kernel
theorem dX1_commonDivisor_17 : decode cX1_commonDivisor 17 = .ok (.lload 6, 2) := by decide +kernel
theorem dX1_commonDivisor_19 : decode cX1_commonDivisor 19 = .ok (.lconst 0, 1) := by decide +kernel
theorem dX1_commonDivisor_20 : decode cX1_commonDivisor 20 = .ok (.lcmp, 1) := by decide +kernel
theorem dX1_commonDivisor_21 : decode cX1_commonDivisor 21 = .ok (.ifCond .eq 24, 3) := by decide +kernel
theorem dX1_commonDivisor_24 : decode cX1_commonDivisor 24 = .ok (.lload 4, 2) := by decide +kernel
theorem dX1_commonDivisor_26 : decode cX1_commonDivisor 26 = .ok (.lload 6, 2) := by decide +kernel
theorem dX1_commonDivisor_28 : decode cX1_commonDivisor 28 = .ok (.lrem, 1) := by decide +kernel
theorem dX1_commonDivisor_29 : decode cX1_commonDivisor 29 = .ok (.lstore 9, 2) := by decide +kernel
theorem dX1_commonDivisor_31 : decode cX1_commonDivisor 31 = .ok (.lload 6, 2) := by decide +kernel
theorem dX1_commonDivisor_33 : decode cX1_commonDivisor 33 = .ok (.lstore 4, 2) := by decide +kernel
theorem dX1_commonDivisor_35 : decode cX1_commonDivisor 35 = .ok (.lload 9, 2) := by decide +kernel
theorem dX1_commonDivisor_37 : decode cX1_commonDivisor 37 = .ok (.lstore 6, 2) := by decide +kernel
theorem dX1_commonDivisor_39 : decode cX1_commonDivisor 39 = .ok (.iinc 8 1, 3) := by decide +kernel
theorem dX1_commonDivisor_42 : decode cX1_commonDivisor 42 = .ok (.goto (-33), 3) := by decide +kernel
theorem dX1_commonDivisor_45 : decode cX1_commonDivisor 45 = .ok (.lload 4, 2) := by decide +kernel
theorem dX1_commonDivisor_47 : decode cX1_commonDivisor 47 = .ok (.lreturn, 1) := by decide +kernel
theorem dX5_draw_0 : decode cX5_draw 0 = .ok (.aload_n 0, 1) := by decide +kernel
theorem dX5_draw_1 : decode cX5_draw 1 = .ok (.iload_n 2, 1) := by decide +kernel
theorem dX5_draw_2 : decode cX5_draw 2 = .ok (.i2l, 1) := by decide +kernel
theorem dX5_draw_3 : decode cX5_draw 3 = .ok (.putfield 25, 3) := by decide +kernel
theorem dX5_draw_6 : decode cX5_draw 6 = .ok (.aload_n 0, 1) := by decide +kernel
theorem dX5_draw_7 : decode cX5_draw 7 = .ok (.iconst 0, 1) := by decide +kernel
theorem dX5_draw_8 : decode cX5_draw 8 = .ok (.putfield 29, 3) := by decide +kernel
theorem dX5_draw_11 : decode cX5_draw 11 = .ok (.aload_n 0, 1) := by decide +kernel
theorem dX5_draw_12 : decode cX5_draw 12 = .ok (.iconst 0, 1) := by decide +kernel
theorem dX5_draw_13 : decode cX5_draw 13 = .ok (.putfield 33, 3) := by decide +kernel
theorem dX5_draw_16 : decode cX5_draw 16 = .ok (.iconst 0, 1) := by decide +kernel
theorem dX5_draw_17 : decode cX5_draw 17 = .ok (.istore_n 3, 1) := by decide +kernel
theorem dX5_draw_18 : decode cX5_draw 18 = .ok (.iload_n 3, 1) := by decide +kernel
theorem dX5_draw_19 : decode cX5_draw 19 = .ok (.aload_n 1, 1) := by decide +kernel
theorem dX5_draw_20 : decode cX5_draw 20 = .ok (.getfield 36, 3) := by decide +kernel
theorem dX5_draw_23 : decode cX5_draw 23 = .ok (.if_icmp .ge 87, 3) := by decide +kernel
theorem dX5_draw_26 : decode cX5_draw 26 = .ok (.aload_n 0, 1) := by decide +kernel
theorem dX5_draw_27 : decode cX5_draw 27 = .ok (.getfield 9, 3) := by decide +kernel
theorem dX5_draw_30 : decode cX5_draw 30 = .ok (.iload_n 3, 1) := by decide +kernel
theorem dX5_draw_31 : decode cX5_draw 31 = .ok (.iconst (-1), 1) := by decide +kernel
theorem dX5_draw_32 : decode cX5_draw 32 = .ok (.iastore, 1) := by decide +kernel
theorem dX5_draw_33 : decode cX5_draw 33 = .ok (.aload_n 0, 1) := by decide +kernel
theorem dX5_draw_34 : decode cX5_draw 34 = .ok (.getfield 15, 3) := by decide +kernel
theorem dX5_draw_37 : decode cX5_draw 37 = .ok (.iload_n 3, 1) := by decide +kernel
theorem dX5_draw_38 : decode cX5_draw 38 = .ok (.aload_n 1, 1) := by decide +kernel
theorem dX5_draw_39 : decode cX5_draw 39 = .ok (.getfield 41, 3) := by decide +kernel
theorem dX5_draw_42 : decode cX5_draw 42 = .ok (.iload_n 3, 1) := by decide +kernel
theorem dX5_draw_43 : decode cX5_draw 43 = .ok (.iaload, 1) := by decide +kernel
theorem dX5_draw_44 : decode cX5_draw 44 = .ok (.iastore, 1) := by decide +kernel
theorem dX5_draw_45 : decode cX5_draw 45 = .ok (.iconst 0, 1) := by decide +kernel
theorem dX5_draw_46 : decode cX5_draw 46 = .ok (.istore 4, 2) := by decide +kernel
theorem dX5_draw_48 : decode cX5_draw 48 = .ok (.iload 4, 2) := by decide +kernel
theorem dX5_draw_50 : decode cX5_draw 50 = .ok (.iconst 2, 1) := by decide +kernel
theorem dX5_draw_51 : decode cX5_draw 51 = .ok (.if_icmp .ge 53, 3) := by decide +kernel
theorem dX5_draw_54 : decode cX5_draw 54 = .ok (.aload_n 0, 1) := by decide +kernel
theorem dX5_draw_55 : decode cX5_draw 55 = .ok (.getfield 18, 3) := by decide +kernel
theorem dX5_draw_58 : decode cX5_draw 58 = .ok (.iconst 2, 1) := by decide +kernel
theorem dX5_draw_59 : decode cX5_draw 59 = .ok (.iload_n 3, 1) := by decide +kernel
theorem dX5_draw_60 : decode cX5_draw 60 = .ok (.imul, 1) := by decide +kernel
theorem dX5_draw_61 : decode cX5_draw 61 = .ok (.iload 4, 2) := by decide +kernel
theorem dX5_draw_63 : decode cX5_draw 63 = .ok (.iadd, 1) := by decide +kernel
theorem dX5_draw_64 : decode cX5_draw 64 = .ok (.aload_n 1, 1) := by decide +kernel
theorem dX5_draw_65 : decode cX5_draw 65 = .ok (.aload_n 1, 1) := by decide +kernel
theorem dX5_draw_66 : decode cX5_draw 66 = .ok (.getfield 44, 3) := by decide +kernel
theorem dX5_draw_69 : decode cX5_draw 69 = .ok (.iconst 2, 1) := by decide +kernel
theorem dX5_draw_70 : decode cX5_draw 70 = .ok (.iload_n 3, 1) := by decide +kernel
theorem dX5_draw_71 : decode cX5_draw 71 = .ok (.imul, 1) := by decide +kernel
theorem dX5_draw_72 : decode cX5_draw 72 = .ok (.iload 4, 2) := by decide +kernel
theorem dX5_draw_74 : decode cX5_draw 74 = .ok (.iadd, 1) := by decide +kernel
theorem dX5_draw_75 : decode cX5_draw 75 = .ok (.iaload, 1) := by decide +kernel
theorem dX5_draw_76 : decode cX5_draw 76 = .ok (.invokevirtual 47, 3) := by decide +kernel
theorem dX5_draw_79 : decode cX5_draw 79 = .ok (.lastore, 1) := by decide +kernel
theorem dX5_draw_80 : decode cX5_draw 80 = .ok (.aload_n 0, 1) := by decide +kernel
theorem dX5_draw_81 : decode cX5_draw 81 = .ok (.getfield 22, 3) := by decide +kernel
theorem dX5_draw_84 : decode cX5_draw 84 = .ok (.iconst 2, 1) := by decide +kernel
theorem dX5_draw_85 : decode cX5_draw 85 = .ok (.iload_n 3, 1) := by decide +kernel
theorem dX5_draw_86 : decode cX5_draw 86 = .ok (.imul, 1) := by decide +kernel
theorem dX5_draw_87 : decode cX5_draw 87 = .ok (.iload 4, 2) := by decide +kernel
theorem dX5_draw_89 : decode cX5_draw 89 = .ok (.iadd, 1) := by decide +kernel
theorem dX5_draw_90 : decode cX5_draw 90 = .ok (.aload_n 1, 1) := by decide +kernel
theorem dX5_draw_91 : decode cX5_draw 91 = .ok (.iload_n 3, 1) := by decide +kernel
theorem dX5_draw_92 : decode cX5_draw 92 = .ok (.iload 4, 2) := by decide +kernel
theorem dX5_draw_94 : decode cX5_draw 94 = .ok (.invokevirtual 51, 3) := by decide +kernel
theorem dX5_draw_97 : decode cX5_draw 97 = .ok (.lastore, 1) := by decide +kernel
theorem dX5_draw_98 : decode cX5_draw 98 = .ok (.iinc 4 1, 3) := by decide +kernel
theorem dX5_draw_101 : decode cX5_draw 101 = .ok (.goto (-53), 3) := by decide +kernel
theorem dX5_draw_104 : decode cX5_draw 104 = .ok (.iinc 3 1, 3) := by decide +kernel
theorem dX5_draw_107 : decode cX5_draw 107 = .ok (.goto (-89), 3) := by decide +kernel
theorem dX5_draw_110 : decode cX5_draw 110 = .ok (.iconst 0, 1) := by decide +kernel
theorem dX5_draw_111 : decode cX5_draw 111 = .ok (.istore_n 3, 1) := by decide +kernel
theorem dX5_draw_112 : decode cX5_draw 112 = .ok (.iload_n 3, 1) := by decide +kernel
theorem dX5_draw_113 : decode cX5_draw 113 = .ok (.aload_n 1, 1) := by decide +kernel
theorem dX5_draw_114 : decode cX5_draw 114 = .ok (.getfield 55, 3) := by decide +kernel
theorem dX5_draw_117 : decode cX5_draw 117 = .ok (.if_icmp .ge 35, 3) := by decide +kernel
theorem dX5_draw_120 : decode cX5_draw 120 = .ok (.iconst 0, 1) := by decide +kernel
theorem dX5_draw_121 : decode cX5_draw 121 = .ok (.istore 4, 2) := by decide +kernel
theorem dX5_draw_123 : decode cX5_draw 123 = .ok (.iload 4, 2) := by decide +kernel
theorem dX5_draw_125 : decode cX5_draw 125 = .ok (.aload_n 1, 1) := by decide +kernel
theorem dX5_draw_126 : decode cX5_draw 126 = .ok (.getfield 36, 3) := by decide +kernel
theorem dX5_draw_129 : decode cX5_draw 129 = .ok (.if_icmp .ge 17, 3) := by decide +kernel
theorem dX5_draw_132 : decode cX5_draw 132 = .ok (.aload_n 0, 1) := by decide +kernel
theorem dX5_draw_133 : decode cX5_draw 133 = .ok (.aload_n 1, 1) := by decide +kernel
theorem dX5_draw_134 : decode cX5_draw 134 = .ok (.iload 4, 2) := by decide +kernel
theorem dX5_draw_136 : decode cX5_draw 136 = .ok (.iload_n 3, 1) := by decide +kernel
theorem dX5_draw_137 : decode cX5_draw 137 = .ok (.invokevirtual 58, 3) := by decide +kernel
theorem dX5_draw_140 : decode cX5_draw 140 = .ok (.iinc 4 1, 3) := by decide +kernel
theorem dX5_draw_143 : decode cX5_draw 143 = .ok (.goto (-20), 3) := by decide +kernel
theorem dX5_draw_146 : decode cX5_draw 146 = .ok (.iinc 3 1, 3) := by decide +kernel
theorem dX5_draw_149 : decode cX5_draw 149 = .ok (.goto (-37), 3) := by decide +kernel
theorem dX5_draw_152 : decode cX5_draw 152 = .ok (.return_, 1) := by decide +kernel
theorem dX5_silentAtLast_0 : decode cX5_silentAtLast 0 = .ok (.iconst 0, 1) := by decide +kernel
theorem dX5_silentAtLast_1 : decode cX5_silentAtLast 1 = .ok (.istore_n 2, 1) := by decide +kernel
theorem dX5_silentAtLast_2 : decode cX5_silentAtLast 2 = .ok (.iconst 0, 1) := by decide +kernel
theorem dX5_silentAtLast_3 : decode cX5_silentAtLast 3 = .ok (.istore_n 3, 1) := by decide +kernel
theorem dX5_silentAtLast_4 : decode cX5_silentAtLast 4 = .ok (.iload_n 3, 1) := by decide +kernel
theorem dX5_silentAtLast_5 : decode cX5_silentAtLast 5 = .ok (.aload_n 1, 1) := by decide +kernel
theorem dX5_silentAtLast_6 : decode cX5_silentAtLast 6 = .ok (.getfield 36, 3) := by decide +kernel
theorem dX5_silentAtLast_9 : decode cX5_silentAtLast 9 = .ok (.if_icmp .ge 32, 3) := by decide +kernel
theorem dX5_silentAtLast_12 : decode cX5_silentAtLast 12 = .ok (.iload_n 2, 1) := by decide +kernel
theorem dX5_silentAtLast_13 : decode cX5_silentAtLast 13 = .ok (.aload_n 0, 1) := by decide +kernel
theorem dX5_silentAtLast_14 : decode cX5_silentAtLast 14 = .ok (.getfield 9, 3) := by decide +kernel
theorem dX5_silentAtLast_17 : decode cX5_silentAtLast 17 = .ok (.iload_n 3, 1) := by decide +kernel
theorem dX5_silentAtLast_18 : decode cX5_silentAtLast 18 = .ok (.iaload, 1) := by decide +kernel
theorem dX5_silentAtLast_19 : decode cX5_silentAtLast 19 = .ok (.aload_n 1, 1) := by decide +kernel
theorem dX5_silentAtLast_20 : decode cX5_silentAtLast 20 = .ok (.getfield 55, 3) := by decide +kernel
theorem dX5_silentAtLast_23 : decode cX5_silentAtLast 23 = .ok (.iconst 1, 1) := by decide +kernel
theorem dX5_silentAtLast_24 : decode cX5_silentAtLast 24 = .ok (.isub, 1) := by decide +kernel
theorem dX5_silentAtLast_25 : decode cX5_silentAtLast 25 = .ok (.if_icmp .ne 7, 3) := by decide +kernel
theorem dX5_silentAtLast_28 : decode cX5_silentAtLast 28 = .ok (.iconst 0, 1) := by decide +kernel
theorem dX5_silentAtLast_29 : decode cX5_silentAtLast 29 = .ok (.goto 4, 3) := by decide +kernel
theorem dX5_silentAtLast_32 : decode cX5_silentAtLast 32 = .ok (.iconst 1, 1) := by decide +kernel
theorem dX5_silentAtLast_33 : decode cX5_silentAtLast 33 = .ok (.iadd, 1) := by decide +kernel
theorem dX5_silentAtLast_34 : decode cX5_silentAtLast 34 = .ok (.istore_n 2, 1) := by decide +kernel
theorem dX5_silentAtLast_35 : decode cX5_silentAtLast 35 = .ok (.iinc 3 1, 3) := by decide +kernel
theorem dX5_silentAtLast_38 : decode cX5_silentAtLast 38 = .ok (.goto (-34), 3) := by decide +kernel
theorem dX5_silentAtLast_41 : decode cX5_silentAtLast 41 = .ok (.iload_n 2, 1) := by decide +kernel
theorem dX5_silentAtLast_42 : decode cX5_silentAtLast 42 = .ok (.ireturn, 1) := by decide +kernel
theorem dX5_goThrough_0 : decode cX5_goThrough 0 = .ok (.aload_n 1, 1) := by decide +kernel
theorem dX5_goThrough_1 : decode cX5_goThrough 1 = .ok (.iload_n 2, 1) := by decide +kernel
theorem dX5_goThrough_2 : decode cX5_goThrough 2 = .ok (.iconst 0, 1) := by decide +kernel
theorem dX5_goThrough_3 : decode cX5_goThrough 3 = .ok (.invokevirtual 62, 3) := by decide +kernel
theorem dX5_goThrough_6 : decode cX5_goThrough 6 = .ok (.istore 4, 2) := by decide +kernel
theorem dX5_goThrough_8 : decode cX5_goThrough 8 = .ok (.aload_n 1, 1) := by decide +kernel
theorem dX5_goThrough_9 : decode cX5_goThrough 9 = .ok (.iload_n 2, 1) := by decide +kernel
theorem dX5_goThrough_10 : decode cX5_goThrough 10 = .ok (.iconst 1, 1) := by decide +kernel
theorem dX5_goThrough_11 : decode cX5_goThrough 11 = .ok (.invokevirtual 62, 3) := by decide +kernel
theorem dX5_goThrough_14 : decode cX5_goThrough 14 = .ok (.istore 5, 2) := by decide +kernel
theorem dX5_goThrough_16 : decode cX5_goThrough 16 = .ok (.aload_n 0, 1) := by decide +kernel
theorem dX5_goThrough_17 : decode cX5_goThrough 17 = .ok (.getfield 18, 3) := by decide +kernel
theorem dX5_goThrough_20 : decode cX5_goThrough 20 = .ok (.iconst 2, 1) := by decide +kernel
theorem dX5_goThrough_21 : decode cX5_goThrough 21 = .ok (.iload_n 2, 1) := by decide +kernel
theorem dX5_goThrough_22 : decode cX5_goThrough 22 = .ok (.imul, 1) := by decide +kernel
theorem dX5_goThrough_23 : decode cX5_goThrough 23 = .ok (.laload, 1) := by decide +kernel
theorem dX5_goThrough_24 : decode cX5_goThrough 24 = .ok (.aload_n 0, 1) := by decide +kernel
theorem dX5_goThrough_25 : decode cX5_goThrough 25 = .ok (.getfield 18, 3) := by decide +kernel
theorem dX5_goThrough_28 : decode cX5_goThrough 28 = .ok (.iconst 2, 1) := by decide +kernel
theorem dX5_goThrough_29 : decode cX5_goThrough 29 = .ok (.iload_n 2, 1) := by decide +kernel
theorem dX5_goThrough_30 : decode cX5_goThrough 30 = .ok (.imul, 1) := by decide +kernel
theorem dX5_goThrough_31 : decode cX5_goThrough 31 = .ok (.iconst 1, 1) := by decide +kernel
theorem dX5_goThrough_32 : decode cX5_goThrough 32 = .ok (.iadd, 1) := by decide +kernel
theorem dX5_goThrough_33 : decode cX5_goThrough 33 = .ok (.laload, 1) := by decide +kernel
theorem dX5_goThrough_34 : decode cX5_goThrough 34 = .ok (.iload_n 3, 1) := by decide +kernel
theorem dX5_goThrough_35 : decode cX5_goThrough 35 = .ok (.invokestatic 66, 3) := by decide +kernel
theorem dX5_goThrough_38 : decode cX5_goThrough 38 = .ok (.istore 6, 2) := by decide +kernel
theorem dX5_goThrough_40 : decode cX5_goThrough 40 = .ok (.aload_n 0, 1) := by decide +kernel
theorem dX5_goThrough_41 : decode cX5_goThrough 41 = .ok (.getfield 22, 3) := by decide +kernel
theorem dX5_goThrough_44 : decode cX5_goThrough 44 = .ok (.iconst 2, 1) := by decide +kernel
theorem dX5_goThrough_45 : decode cX5_goThrough 45 = .ok (.iload_n 2, 1) := by decide +kernel
theorem dX5_goThrough_46 : decode cX5_goThrough 46 = .ok (.imul, 1) := by decide +kernel
theorem dX5_goThrough_47 : decode cX5_goThrough 47 = .ok (.laload, 1) := by decide +kernel
theorem dX5_goThrough_48 : decode cX5_goThrough 48 = .ok (.aload_n 0, 1) := by decide +kernel
theorem dX5_goThrough_49 : decode cX5_goThrough 49 = .ok (.getfield 22, 3) := by decide +kernel
theorem dX5_goThrough_52 : decode cX5_goThrough 52 = .ok (.iconst 2, 1) := by decide +kernel
theorem dX5_goThrough_53 : decode cX5_goThrough 53 = .ok (.iload_n 2, 1) := by decide +kernel
theorem dX5_goThrough_54 : decode cX5_goThrough 54 = .ok (.imul, 1) := by decide +kernel
theorem dX5_goThrough_55 : decode cX5_goThrough 55 = .ok (.iconst 1, 1) := by decide +kernel
theorem dX5_goThrough_56 : decode cX5_goThrough 56 = .ok (.iadd, 1) := by decide +kernel
theorem dX5_goThrough_57 : decode cX5_goThrough 57 = .ok (.laload, 1) := by decide +kernel
theorem dX5_goThrough_58 : decode cX5_goThrough 58 = .ok (.iload_n 3, 1) := by decide +kernel
theorem dX5_goThrough_59 : decode cX5_goThrough 59 = .ok (.invokestatic 66, 3) := by decide +kernel
theorem dX5_goThrough_62 : decode cX5_goThrough 62 = .ok (.istore 7, 2) := by decide +kernel
theorem dX5_goThrough_64 : decode cX5_goThrough 64 = .ok (.aload_n 0, 1) := by decide +kernel
theorem dX5_goThrough_65 : decode cX5_goThrough 65 = .ok (.aload_n 1, 1) := by decide +kernel
theorem dX5_goThrough_66 : decode cX5_goThrough 66 = .ok (.iload_n 2, 1) := by decide +kernel
theorem dX5_goThrough_67 : decode cX5_goThrough 67 = .ok (.iload 4, 2) := by decide +kernel
theorem dX5_goThrough_69 : decode cX5_goThrough 69 = .ok (.iload 5, 2) := by decide +kernel
theorem dX5_goThrough_71 : decode cX5_goThrough 71 = .ok (.aload_n 0, 1) := by decide +kernel
theorem dX5_goThrough_72 : decode cX5_goThrough 72 = .ok (.getfield 15, 3) := by decide +kernel
theorem dX5_goThrough_75 : decode cX5_goThrough 75 = .ok (.iload_n 2, 1) := by decide +kernel
theorem dX5_goThrough_76 : decode cX5_goThrough 76 = .ok (.iaload, 1) := by decide +kernel
theorem dX5_goThrough_77 : decode cX5_goThrough 77 = .ok (.invokestatic 72, 3) := by decide +kernel
theorem dX5_goThrough_80 : decode cX5_goThrough 80 = .ok (.iload 6, 2) := by decide +kernel
theorem dX5_goThrough_82 : decode cX5_goThrough 82 = .ok (.iand, 1) := by decide +kernel
theorem dX5_goThrough_83 : decode cX5_goThrough 83 = .ok (.invokevirtual 78, 3) := by decide +kernel
theorem dX5_goThrough_86 : decode cX5_goThrough 86 = .ok (.istore 8, 2) := by decide +kernel
theorem dX5_goThrough_88 : decode cX5_goThrough 88 = .ok (.iload 8, 2) := by decide +kernel
theorem dX5_goThrough_90 : decode cX5_goThrough 90 = .ok (.iload 4, 2) := by decide +kernel
theorem dX5_goThrough_92 : decode cX5_goThrough 92 = .ok (.iload 5, 2) := by decide +kernel
theorem dX5_goThrough_94 : decode cX5_goThrough 94 = .ok (.invokestatic 82, 3) := by decide +kernel
theorem dX5_goThrough_97 : decode cX5_goThrough 97 = .ok (.iload 6, 2) := by decide +kernel
theorem dX5_goThrough_99 : decode cX5_goThrough 99 = .ok (.iand, 1) := by decide +kernel
theorem dX5_goThrough_100 : decode cX5_goThrough 100 = .ok (.iload 7, 2) := by decide +kernel
theorem dX5_goThrough_102 : decode cX5_goThrough 102 = .ok (.invokestatic 85, 3) := by decide +kernel
theorem dX5_goThrough_105 : decode cX5_goThrough 105 = .ok (.istore 9, 2) := by decide +kernel
theorem dX5_goThrough_107 : decode cX5_goThrough 107 = .ok (.iload 8, 2) := by decide +kernel
theorem dX5_goThrough_109 : decode cX5_goThrough 109 = .ok (.aload_n 0, 1) := by decide +kernel
theorem dX5_goThrough_110 : decode cX5_goThrough 110 = .ok (.aload_n 1, 1) := by decide +kernel
theorem dX5_goThrough_111 : decode cX5_goThrough 111 = .ok (.iload_n 2, 1) := by decide +kernel
theorem dX5_goThrough_112 : decode cX5_goThrough 112 = .ok (.iload 9, 2) := by decide +kernel
theorem dX5_goThrough_114 : decode cX5_goThrough 114 = .ok (.invokevirtual 78, 3) := by decide +kernel
theorem dX5_goThrough_117 : decode cX5_goThrough 117 = .ok (.ior, 1) := by decide +kernel
theorem dX5_goThrough_118 : decode cX5_goThrough 118 = .ok (.istore 10, 2) := by decide +kernel
theorem dX5_goThrough_120 : decode cX5_goThrough 120 = .ok (.iload 10, 2) := by decide +kernel
theorem dX5_goThrough_122 : decode cX5_goThrough 122 = .ok (.ifCond .eq 10, 3) := by decide +kernel
theorem dX5_goThrough_125 : decode cX5_goThrough 125 = .ok (.aload_n 0, 1) := by decide +kernel
theorem dX5_goThrough_126 : decode cX5_goThrough 126 = .ok (.getfield 9, 3) := by decide +kernel
theorem dX5_goThrough_129 : decode cX5_goThrough 129 = .ok (.iload_n 2, 1) := by decide +kernel
theorem dX5_goThrough_130 : decode cX5_goThrough 130 = .ok (.iload_n 3, 1) := by decide +kernel
theorem dX5_goThrough_131 : decode cX5_goThrough 131 = .ok (.iastore, 1) := by decide +kernel
theorem dX5_goThrough_132 : decode cX5_goThrough 132 = .ok (.aload_n 0, 1) := by decide +kernel
theorem dX5_goThrough_133 : decode cX5_goThrough 133 = .ok (.dup, 1) := by decide +kernel
theorem dX5_goThrough_134 : decode cX5_goThrough 134 = .ok (.getfield 29, 3) := by decide +kernel
theorem dX5_goThrough_137 : decode cX5_goThrough 137 = .ok (.iload 10, 2) := by decide +kernel
theorem dX5_goThrough_139 : decode cX5_goThrough 139 = .ok (.invokestatic 88, 3) := by decide +kernel
theorem dX5_goThrough_142 : decode cX5_goThrough 142 = .ok (.iadd, 1) := by decide +kernel
theorem dX5_goThrough_143 : decode cX5_goThrough 143 = .ok (.putfield 29, 3) := by decide +kernel
theorem dX5_goThrough_146 : decode cX5_goThrough 146 = .ok (.aload_n 0, 1) := by decide +kernel
theorem dX5_goThrough_147 : decode cX5_goThrough 147 = .ok (.getfield 15, 3) := by decide +kernel
theorem dX5_goThrough_150 : decode cX5_goThrough 150 = .ok (.iload_n 2, 1) := by decide +kernel
theorem dX5_goThrough_151 : decode cX5_goThrough 151 = .ok (.aload_n 0, 1) := by decide +kernel
theorem dX5_goThrough_152 : decode cX5_goThrough 152 = .ok (.getfield 15, 3) := by decide +kernel
theorem dX5_goThrough_155 : decode cX5_goThrough 155 = .ok (.iload_n 2, 1) := by decide +kernel
theorem dX5_goThrough_156 : decode cX5_goThrough 156 = .ok (.iaload, 1) := by decide +kernel
theorem dX5_goThrough_157 : decode cX5_goThrough 157 = .ok (.iload 10, 2) := by decide +kernel
theorem dX5_goThrough_159 : decode cX5_goThrough 159 = .ok (.iload 7, 2) := by decide +kernel
theorem dX5_goThrough_161 : decode cX5_goThrough 161 = .ok (.iand, 1) := by decide +kernel
theorem dX5_goThrough_162 : decode cX5_goThrough 162 = .ok (.invokestatic 94, 3) := by decide +kernel
theorem dX5_goThrough_165 : decode cX5_goThrough 165 = .ok (.invokestatic 97, 3) := by decide +kernel
theorem dX5_goThrough_168 : decode cX5_goThrough 168 = .ok (.iastore, 1) := by decide +kernel
theorem dX5_goThrough_169 : decode cX5_goThrough 169 = .ok (.return_, 1) := by decide +kernel
theorem dX8_push_0 : decode cX8_push 0 = .ok (.bipush 24, 2) := by decide +kernel
theorem dX8_push_2 : decode cX8_push 2 = .ok (.istore_n 2, 1) := by decide +kernel
theorem dX8_push_3 : decode cX8_push 3 = .ok (.iload_n 2, 1) := by decide +kernel
theorem dX8_push_4 : decode cX8_push 4 = .ok (.ifCond .lt 42, 3) := by decide +kernel
theorem dX8_push_7 : decode cX8_push 7 = .ok (.aload_n 0, 1) := by decide +kernel
theorem dX8_push_8 : decode cX8_push 8 = .ok (.getfield 9, 3) := by decide +kernel
theorem dX8_push_11 : decode cX8_push 11 = .ok (.sipush 1600, 3) := by decide +kernel
theorem dX8_push_14 : decode cX8_push 14 = .ok (.if_icmp .ge 32, 3) := by decide +kernel
theorem dX8_push_17 : decode cX8_push 17 = .ok (.aload_n 0, 1) := by decide +kernel
theorem dX8_push_18 : decode cX8_push 18 = .ok (.getfield 28, 3) := by decide +kernel
theorem dX8_push_21 : decode cX8_push 21 = .ok (.aload_n 0, 1) := by decide +kernel
theorem dX8_push_22 : decode cX8_push 22 = .ok (.getfield 9, 3) := by decide +kernel
theorem dX8_push_25 : decode cX8_push 25 = .ok (.iload_n 1, 1) := by decide +kernel
theorem dX8_push_26 : decode cX8_push 26 = .ok (.iload_n 2, 1) := by decide +kernel
theorem dX8_push_27 : decode cX8_push 27 = .ok (.ishr, 1) := by decide +kernel
theorem dX8_push_28 : decode cX8_push 28 = .ok (.i2b, 1) := by decide +kernel
theorem dX8_push_29 : decode cX8_push 29 = .ok (.bastore, 1) := by decide +kernel
theorem dX8_push_30 : decode cX8_push 30 = .ok (.aload_n 0, 1) := by decide +kernel
theorem dX8_push_31 : decode cX8_push 31 = .ok (.dup, 1) := by decide +kernel
theorem dX8_push_32 : decode cX8_push 32 = .ok (.getfield 9, 3) := by decide +kernel
theorem dX8_push_35 : decode cX8_push 35 = .ok (.iconst 1, 1) := by decide +kernel
theorem dX8_push_36 : decode cX8_push 36 = .ok (.iadd, 1) := by decide +kernel
theorem dX8_push_37 : decode cX8_push 37 = .ok (.putfield 9, 3) := by decide +kernel
theorem dX8_push_40 : decode cX8_push 40 = .ok (.iinc 2 (-8), 3) := by decide +kernel
theorem dX8_push_43 : decode cX8_push 43 = .ok (.goto (-40), 3) := by decide +kernel
theorem dX8_push_46 : decode cX8_push 46 = .ok (.return_, 1) := by decide +kernel
theorem dX8_byteAt_0 : decode cX8_byteAt 0 = .ok (.iload_n 1, 1) := by decide +kernel
theorem dX8_byteAt_1 : decode cX8_byteAt 1 = .ok (.ifCond .lt 19, 3) := by decide +kernel
theorem dX8_byteAt_4 : decode cX8_byteAt 4 = .ok (.iload_n 1, 1) := by decide +kernel
theorem dX8_byteAt_5 : decode cX8_byteAt 5 = .ok (.sipush 1600, 3) := by decide +kernel
theorem dX8_byteAt_8 : decode cX8_byteAt 8 = .ok (.if_icmp .ge 12, 3) := by decide +kernel
theorem dX8_byteAt_11 : decode cX8_byteAt 11 = .ok (.aload_n 0, 1) := by decide +kernel
theorem dX8_byteAt_12 : decode cX8_byteAt 12 = .ok (.getfield 28, 3) := by decide +kernel
theorem dX8_byteAt_15 : decode cX8_byteAt 15 = .ok (.iload_n 1, 1) := by decide +kernel
theorem dX8_byteAt_16 : decode cX8_byteAt 16 = .ok (.baload, 1) := by decide +kernel
theorem dX8_byteAt_17 : decode cX8_byteAt 17 = .ok (.goto 4, 3) := by decide +kernel
theorem dX8_byteAt_20 : decode cX8_byteAt 20 = .ok (.iconst 0, 1) := by decide +kernel
theorem dX8_byteAt_21 : decode cX8_byteAt 21 = .ok (.ireturn, 1) := by decide +kernel
theorem dX8_isBlank_0 : decode cX8_isBlank 0 = .ok (.iload_n 0, 1) := by decide +kernel
theorem dX8_isBlank_1 : decode cX8_isBlank 1 = .ok (.bipush 32, 2) := by decide +kernel
theorem dX8_isBlank_3 : decode cX8_isBlank 3 = .ok (.if_icmp .eq 9, 3) := by decide +kernel
theorem dX8_isBlank_6 : decode cX8_isBlank 6 = .ok (.iload_n 0, 1) := by decide +kernel
theorem dX8_isBlank_7 : decode cX8_isBlank 7 = .ok (.bipush 10, 2) := by decide +kernel
theorem dX8_isBlank_9 : decode cX8_isBlank 9 = .ok (.if_icmp .ne 7, 3) := by decide +kernel
theorem dX8_isBlank_12 : decode cX8_isBlank 12 = .ok (.iconst 1, 1) := by decide +kernel
theorem dX8_isBlank_13 : decode cX8_isBlank 13 = .ok (.goto 4, 3) := by decide +kernel
theorem dX8_isBlank_16 : decode cX8_isBlank 16 = .ok (.iconst 0, 1) := by decide +kernel
theorem dX8_isBlank_17 : decode cX8_isBlank 17 = .ok (.ireturn, 1) := by decide +kernel
theorem dJ0_length_8abf5_0 : decode cJ0_length_8abf5 0 = .ok (.aload_n 0, 1) := by decide +kernel
theorem dJ0_length_8abf5_1 : decode cJ0_length_8abf5 1 = .ok (.getfield 9, 3) := by decide +kernel
theorem dJ0_length_8abf5_4 : decode cJ0_length_8abf5 4 = .ok (.arraylength, 1) := by decide +kernel
theorem dJ0_length_8abf5_5 : decode cJ0_length_8abf5 5 = .ok (.aload_n 0, 1) := by decide +kernel
theorem dJ0_length_8abf5_6 : decode cJ0_length_8abf5 6 = .ok (.invokevirtual 335, 3) := by decide +kernel
theorem dJ0_length_8abf5_9 : decode cJ0_length_8abf5 9 = .ok (.ishr, 1) := by decide +kernel
theorem dJ0_length_8abf5_10 : decode cJ0_length_8abf5 10 = .ok (.ireturn, 1) := by decide +kernel
theorem dJ0_charAt_5068e_0 : decode cJ0_charAt_5068e 0 = .ok (.aload_n 0, 1) := by decide +kernel
theorem dJ0_charAt_5068e_1 : decode cJ0_charAt_5068e 1 = .ok (.invokevirtual 492, 3) := by decide +kernel
theorem dJ0_charAt_5068e_4 : decode cJ0_charAt_5068e 4 = .ok (.ifCond .eq 12, 3) := by decide +kernel
theorem dJ0_charAt_5068e_7 : decode cJ0_charAt_5068e 7 = .ok (.aload_n 0, 1) := by decide +kernel
theorem dJ0_charAt_5068e_8 : decode cJ0_charAt_5068e 8 = .ok (.getfield 9, 3) := by decide +kernel
theorem dJ0_charAt_5068e_11 : decode cJ0_charAt_5068e 11 = .ok (.iload_n 1, 1) := by decide +kernel
theorem dJ0_charAt_5068e_12 : decode cJ0_charAt_5068e 12 = .ok (.invokestatic 495, 3) := by decide +kernel
theorem dJ0_charAt_5068e_15 : decode cJ0_charAt_5068e 15 = .ok (.ireturn, 1) := by decide +kernel
theorem dJ0_coder_7d493_0 : decode cJ0_coder_7d493 0 = .ok (.getstatic 38, 3) := by decide +kernel
theorem dJ0_coder_7d493_3 : decode cJ0_coder_7d493 3 = .ok (.ifCond .eq 10, 3) := by decide +kernel
theorem dJ0_coder_7d493_6 : decode cJ0_coder_7d493 6 = .ok (.aload_n 0, 1) := by decide +kernel
theorem dJ0_coder_7d493_7 : decode cJ0_coder_7d493 7 = .ok (.getfield 15, 3) := by decide +kernel
theorem dJ0_coder_7d493_10 : decode cJ0_coder_7d493 10 = .ok (.goto 4, 3) := by decide +kernel
theorem dJ0_coder_7d493_14 : decode cJ0_coder_7d493 14 = .ok (.ireturn, 1) := by decide +kernel
theorem dJ0_isLatin1_aae02_0 : decode cJ0_isLatin1_aae02 0 = .ok (.getstatic 38, 3) := by decide +kernel
theorem dJ0_isLatin1_aae02_3 : decode cJ0_isLatin1_aae02 3 = .ok (.ifCond .eq 14, 3) := by decide +kernel
theorem dJ0_isLatin1_aae02_6 : decode cJ0_isLatin1_aae02 6 = .ok (.aload_n 0, 1) := by decide +kernel
theorem dJ0_isLatin1_aae02_7 : decode cJ0_isLatin1_aae02 7 = .ok (.getfield 15, 3) := by decide +kernel
theorem dJ0_isLatin1_aae02_10 : decode cJ0_isLatin1_aae02 10 = .ok (.ifCond .ne 7, 3) := by decide +kernel
theorem dJ0_isLatin1_aae02_13 : decode cJ0_isLatin1_aae02 13 = .ok (.iconst 1, 1) := by decide +kernel
theorem dJ0_isLatin1_aae02_14 : decode cJ0_isLatin1_aae02 14 = .ok (.goto 4, 3) := by decide +kernel
theorem dJ0_isLatin1_aae02_18 : decode cJ0_isLatin1_aae02 18 = .ok (.ireturn, 1) := by decide +kernel
theorem dJ0_checkIndex_df160_0 : decode cJ0_checkIndex_df160 0 = .ok (.iload_n 0, 1) := by decide +kernel
theorem dJ0_checkIndex_df160_1 : decode cJ0_checkIndex_df160 1 = .ok (.iload_n 1, 1) := by decide +kernel
theorem dJ0_checkIndex_df160_2 : decode cJ0_checkIndex_df160 2 = .ok (.getstatic 1053, 3) := by decide +kernel
theorem dJ0_checkIndex_df160_5 : decode cJ0_checkIndex_df160 5 = .ok (.invokestatic 1059, 3) := by decide +kernel
theorem dJ0_checkIndex_df160_8 : decode cJ0_checkIndex_df160 8 = .ok (.pop, 1) := by decide +kernel
theorem dJ0_checkIndex_df160_9 : decode cJ0_checkIndex_df160 9 = .ok (.return_, 1) := by decide +kernel
theorem dJ1_charAt_3b067_0 : decode cJ1_charAt_3b067 0 = .ok (.iload_n 1, 1) := by decide +kernel
theorem dJ1_charAt_3b067_1 : decode cJ1_charAt_3b067 1 = .ok (.aload_n 0, 1) := by decide +kernel
theorem dJ1_charAt_3b067_2 : decode cJ1_charAt_3b067 2 = .ok (.arraylength, 1) := by decide +kernel
theorem dJ1_charAt_3b067_3 : decode cJ1_charAt_3b067 3 = .ok (.invokestatic 9, 3) := by decide +kernel
theorem dJ1_charAt_3b067_6 : decode cJ1_charAt_3b067 6 = .ok (.aload_n 0, 1) := by decide +kernel
theorem dJ1_charAt_3b067_7 : decode cJ1_charAt_3b067 7 = .ok (.iload_n 1, 1) := by decide +kernel
theorem dJ1_charAt_3b067_8 : decode cJ1_charAt_3b067 8 = .ok (.baload, 1) := by decide +kernel
theorem dJ1_charAt_3b067_9 : decode cJ1_charAt_3b067 9 = .ok (.sipush 255, 3) := by decide +kernel
theorem dJ1_charAt_3b067_12 : decode cJ1_charAt_3b067 12 = .ok (.iand, 1) := by decide +kernel
theorem dJ1_charAt_3b067_13 : decode cJ1_charAt_3b067 13 = .ok (.i2c, 1) := by decide +kernel
theorem dJ1_charAt_3b067_14 : decode cJ1_charAt_3b067 14 = .ok (.ireturn, 1) := by decide +kernel
theorem dJ3_checkIndex_8e157_0 : decode cJ3_checkIndex_8e157 0 = .ok (.iload_n 0, 1) := by decide +kernel
theorem dJ3_checkIndex_8e157_1 : decode cJ3_checkIndex_8e157 1 = .ok (.ifCond .lt 8, 3) := by decide +kernel
theorem dJ3_checkIndex_8e157_4 : decode cJ3_checkIndex_8e157 4 = .ok (.iload_n 0, 1) := by decide +kernel
theorem dJ3_checkIndex_8e157_5 : decode cJ3_checkIndex_8e157 5 = .ok (.iload_n 1, 1) := by decide +kernel
theorem dJ3_checkIndex_8e157_6 : decode cJ3_checkIndex_8e157 6 = .ok (.if_icmp .lt 10, 3) := by decide +kernel
theorem dJ3_checkIndex_8e157_16 : decode cJ3_checkIndex_8e157 16 = .ok (.iload_n 0, 1) := by decide +kernel
theorem dJ3_checkIndex_8e157_17 : decode cJ3_checkIndex_8e157 17 = .ok (.ireturn, 1) := by decide +kernel
