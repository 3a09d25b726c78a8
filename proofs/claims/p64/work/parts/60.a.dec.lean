theorem dX12_fateOf_0 : decode cX12_fateOf 0 = .ok (.aload_n 0, 1) := by decide +kernel
theorem dX12_fateOf_1 : decode cX12_fateOf 1 = .ok (.iload_n 1, 1) := by decide +kernel
theorem dX12_fateOf_2 : decode cX12_fateOf 2 = .ok (.iload_n 2, 1) := by decide +kernel
theorem dX12_fateOf_3 : decode cX12_fateOf 3 = .ok (.iload_n 3, 1) := by decide +kernel
theorem dX12_fateOf_4 : decode cX12_fateOf 4 = .ok (.invokevirtual 400, 3) := by decide +kernel
theorem dX12_fateOf_7 : decode cX12_fateOf 7 = .ok (.aload_n 0, 1) := by decide +kernel
theorem dX12_fateOf_8 : decode cX12_fateOf 8 = .ok (.getfield 397, 3) := by decide +kernel
theorem dX12_fateOf_11 : decode cX12_fateOf 11 = .ok (.ireturn, 1) := by decide +kernel
theorem dX12_fate_0 : decode cX12_fate 0 = .ok (.aload_n 0, 1) := by decide +kernel
theorem dX12_fate_1 : decode cX12_fate 1 = .ok (.iconst 0, 1) := by decide +kernel
theorem dX12_fate_2 : decode cX12_fate 2 = .ok (.putfield 107, 3) := by decide +kernel
theorem dX12_fate_5 : decode cX12_fate 5 = .ok (.iload_n 1, 1) := by decide +kernel
theorem dX12_fate_6 : decode cX12_fate 6 = .ok (.invokestatic 403, 3) := by decide +kernel
theorem dX12_fate_9 : decode cX12_fate 9 = .ok (.ifCond .eq 35, 3) := by decide +kernel
theorem dX12_fate_12 : decode cX12_fate 12 = .ok (.iload_n 2, 1) := by decide +kernel
theorem dX12_fate_13 : decode cX12_fate 13 = .ok (.invokestatic 403, 3) := by decide +kernel
theorem dX12_fate_16 : decode cX12_fate 16 = .ok (.ifCond .eq 28, 3) := by decide +kernel
theorem dX12_fate_19 : decode cX12_fate 19 = .ok (.iload_n 3, 1) := by decide +kernel
theorem dX12_fate_20 : decode cX12_fate 20 = .ok (.i2l, 1) := by decide +kernel
theorem dX12_fate_21 : decode cX12_fate 21 = .ok (.lconst 0, 1) := by decide +kernel
theorem dX12_fate_22 : decode cX12_fate 22 = .ok (.ldc2_w 286, 3) := by decide +kernel
theorem dX12_fate_25 : decode cX12_fate 25 = .ok (.invokestatic 112, 3) := by decide +kernel
theorem dX12_fate_28 : decode cX12_fate 28 = .ok (.ifCond .eq 16, 3) := by decide +kernel
theorem dX12_fate_31 : decode cX12_fate 31 = .ok (.iload 4, 2) := by decide +kernel
theorem dX12_fate_33 : decode cX12_fate 33 = .ok (.i2l, 1) := by decide +kernel
theorem dX12_fate_34 : decode cX12_fate 34 = .ok (.lconst 0, 1) := by decide +kernel
theorem dX12_fate_35 : decode cX12_fate 35 = .ok (.ldc2_w 110, 3) := by decide +kernel
theorem dX12_fate_38 : decode cX12_fate 38 = .ok (.invokestatic 112, 3) := by decide +kernel
theorem dX12_fate_41 : decode cX12_fate 41 = .ok (.ifCond .ne 6, 3) := by decide +kernel
theorem dX12_fate_44 : decode cX12_fate 44 = .ok (.bipush (-2), 2) := by decide +kernel
theorem dX12_fate_46 : decode cX12_fate 46 = .ok (.ireturn, 1) := by decide +kernel
theorem dX12_fate_47 : decode cX12_fate 47 = .ok (.aload_n 0, 1) := by decide +kernel
theorem dX12_fate_48 : decode cX12_fate 48 = .ok (.iload_n 1, 1) := by decide +kernel
theorem dX12_fate_49 : decode cX12_fate 49 = .ok (.iload_n 2, 1) := by decide +kernel
theorem dX12_fate_50 : decode cX12_fate 50 = .ok (.iload_n 3, 1) := by decide +kernel
theorem dX12_fate_51 : decode cX12_fate 51 = .ok (.invokevirtual 400, 3) := by decide +kernel
theorem dX12_fate_54 : decode cX12_fate 54 = .ok (.aload_n 0, 1) := by decide +kernel
theorem dX12_fate_55 : decode cX12_fate 55 = .ok (.iload 4, 2) := by decide +kernel
theorem dX12_fate_57 : decode cX12_fate 57 = .ok (.invokevirtual 406, 3) := by decide +kernel
theorem dX12_fate_60 : decode cX12_fate 60 = .ok (.ireturn, 1) := by decide +kernel
theorem dX12_fatesOf_0 : decode cX12_fatesOf 0 = .ok (.aload_n 0, 1) := by decide +kernel
theorem dX12_fatesOf_1 : decode cX12_fatesOf 1 = .ok (.aload_n 0, 1) := by decide +kernel
theorem dX12_fatesOf_2 : decode cX12_fatesOf 2 = .ok (.iload_n 1, 1) := by decide +kernel
theorem dX12_fatesOf_3 : decode cX12_fatesOf 3 = .ok (.iconst 0, 1) := by decide +kernel
theorem dX12_fatesOf_4 : decode cX12_fatesOf 4 = .ok (.invokevirtual 409, 3) := by decide +kernel
theorem dX12_fatesOf_7 : decode cX12_fatesOf 7 = .ok (.aload_n 0, 1) := by decide +kernel
theorem dX12_fatesOf_8 : decode cX12_fatesOf 8 = .ok (.iload_n 1, 1) := by decide +kernel
theorem dX12_fatesOf_9 : decode cX12_fatesOf 9 = .ok (.iconst 1, 1) := by decide +kernel
theorem dX12_fatesOf_10 : decode cX12_fatesOf 10 = .ok (.invokevirtual 409, 3) := by decide +kernel
theorem dX12_fatesOf_13 : decode cX12_fatesOf 13 = .ok (.aload_n 0, 1) := by decide +kernel
theorem dX12_fatesOf_14 : decode cX12_fatesOf 14 = .ok (.getfield 40, 3) := by decide +kernel
theorem dX12_fatesOf_17 : decode cX12_fatesOf 17 = .ok (.iconst 3, 1) := by decide +kernel
theorem dX12_fatesOf_18 : decode cX12_fatesOf 18 = .ok (.iload_n 1, 1) := by decide +kernel
theorem dX12_fatesOf_19 : decode cX12_fatesOf 19 = .ok (.imul, 1) := by decide +kernel
theorem dX12_fatesOf_20 : decode cX12_fatesOf 20 = .ok (.iconst 2, 1) := by decide +kernel
theorem dX12_fatesOf_21 : decode cX12_fatesOf 21 = .ok (.iadd, 1) := by decide +kernel
theorem dX12_fatesOf_22 : decode cX12_fatesOf 22 = .ok (.iaload, 1) := by decide +kernel
theorem dX12_fatesOf_23 : decode cX12_fatesOf 23 = .ok (.invokevirtual 400, 3) := by decide +kernel
theorem dX12_fatesOf_26 : decode cX12_fatesOf 26 = .ok (.return_, 1) := by decide +kernel
theorem dX12_goes__0 : decode cX12_goes_ 0 = .ok (.aload_n 0, 1) := by decide +kernel
theorem dX12_goes__1 : decode cX12_goes_ 1 = .ok (.iconst 0, 1) := by decide +kernel
theorem dX12_goes__2 : decode cX12_goes_ 2 = .ok (.putfield 107, 3) := by decide +kernel
theorem dX12_goes__5 : decode cX12_goes_ 5 = .ok (.aload_n 0, 1) := by decide +kernel
theorem dX12_goes__6 : decode cX12_goes_ 6 = .ok (.iload_n 1, 1) := by decide +kernel
theorem dX12_goes__7 : decode cX12_goes_ 7 = .ok (.invokevirtual 281, 3) := by decide +kernel
theorem dX12_goes__10 : decode cX12_goes_ 10 = .ok (.ifCond .eq 15, 3) := by decide +kernel
theorem dX12_goes__13 : decode cX12_goes_ 13 = .ok (.iload_n 2, 1) := by decide +kernel
theorem dX12_goes__14 : decode cX12_goes_ 14 = .ok (.i2l, 1) := by decide +kernel
theorem dX12_goes__15 : decode cX12_goes_ 15 = .ok (.lconst 0, 1) := by decide +kernel
theorem dX12_goes__16 : decode cX12_goes_ 16 = .ok (.ldc2_w 110, 3) := by decide +kernel
theorem dX12_goes__19 : decode cX12_goes_ 19 = .ok (.invokestatic 112, 3) := by decide +kernel
theorem dX12_goes__22 : decode cX12_goes_ 22 = .ok (.ifCond .ne 6, 3) := by decide +kernel
theorem dX12_goes__25 : decode cX12_goes_ 25 = .ok (.bipush (-2), 2) := by decide +kernel
theorem dX12_goes__27 : decode cX12_goes_ 27 = .ok (.ireturn, 1) := by decide +kernel
theorem dX12_goes__28 : decode cX12_goes_ 28 = .ok (.aload_n 0, 1) := by decide +kernel
theorem dX12_goes__29 : decode cX12_goes_ 29 = .ok (.iload_n 1, 1) := by decide +kernel
theorem dX12_goes__30 : decode cX12_goes_ 30 = .ok (.invokevirtual 412, 3) := by decide +kernel
theorem dX12_goes__33 : decode cX12_goes_ 33 = .ok (.aload_n 0, 1) := by decide +kernel
theorem dX12_goes__34 : decode cX12_goes_ 34 = .ok (.iload_n 2, 1) := by decide +kernel
theorem dX12_goes__35 : decode cX12_goes_ 35 = .ok (.invokevirtual 406, 3) := by decide +kernel
theorem dX12_goes__38 : decode cX12_goes_ 38 = .ok (.ireturn, 1) := by decide +kernel
theorem dX12_basin_0 : decode cX12_basin 0 = .ok (.aload_n 0, 1) := by decide +kernel
theorem dX12_basin_1 : decode cX12_basin 1 = .ok (.iconst 0, 1) := by decide +kernel
theorem dX12_basin_2 : decode cX12_basin 2 = .ok (.putfield 107, 3) := by decide +kernel
theorem dX12_basin_5 : decode cX12_basin 5 = .ok (.iload_n 1, 1) := by decide +kernel
theorem dX12_basin_6 : decode cX12_basin 6 = .ok (.invokestatic 403, 3) := by decide +kernel
theorem dX12_basin_9 : decode cX12_basin 9 = .ok (.ifCond .eq 22, 3) := by decide +kernel
theorem dX12_basin_12 : decode cX12_basin 12 = .ok (.iload_n 2, 1) := by decide +kernel
theorem dX12_basin_13 : decode cX12_basin 13 = .ok (.invokestatic 403, 3) := by decide +kernel
theorem dX12_basin_16 : decode cX12_basin 16 = .ok (.ifCond .eq 15, 3) := by decide +kernel
theorem dX12_basin_19 : decode cX12_basin 19 = .ok (.iload_n 3, 1) := by decide +kernel
theorem dX12_basin_20 : decode cX12_basin 20 = .ok (.i2l, 1) := by decide +kernel
theorem dX12_basin_21 : decode cX12_basin 21 = .ok (.lconst 0, 1) := by decide +kernel
theorem dX12_basin_22 : decode cX12_basin 22 = .ok (.ldc2_w 284, 3) := by decide +kernel
theorem dX12_basin_25 : decode cX12_basin 25 = .ok (.invokestatic 112, 3) := by decide +kernel
theorem dX12_basin_28 : decode cX12_basin 28 = .ok (.ifCond .ne 6, 3) := by decide +kernel
theorem dX12_basin_31 : decode cX12_basin 31 = .ok (.bipush (-2), 2) := by decide +kernel
theorem dX12_basin_33 : decode cX12_basin 33 = .ok (.ireturn, 1) := by decide +kernel
theorem dX12_basin_34 : decode cX12_basin 34 = .ok (.iconst 0, 1) := by decide +kernel
theorem dX12_basin_35 : decode cX12_basin 35 = .ok (.istore 4, 2) := by decide +kernel
theorem dX12_basin_37 : decode cX12_basin 37 = .ok (.iconst 0, 1) := by decide +kernel
theorem dX12_basin_38 : decode cX12_basin 38 = .ok (.istore 5, 2) := by decide +kernel
theorem dX12_basin_40 : decode cX12_basin 40 = .ok (.iload 5, 2) := by decide +kernel
theorem dX12_basin_42 : decode cX12_basin 42 = .ok (.bipush 16, 2) := by decide +kernel
theorem dX12_basin_44 : decode cX12_basin 44 = .ok (.if_icmp .ge 31, 3) := by decide +kernel
theorem dX12_basin_47 : decode cX12_basin 47 = .ok (.iload 4, 2) := by decide +kernel
theorem dX12_basin_49 : decode cX12_basin 49 = .ok (.aload_n 0, 1) := by decide +kernel
theorem dX12_basin_50 : decode cX12_basin 50 = .ok (.iload_n 1, 1) := by decide +kernel
theorem dX12_basin_51 : decode cX12_basin 51 = .ok (.iload_n 2, 1) := by decide +kernel
theorem dX12_basin_52 : decode cX12_basin 52 = .ok (.iload 5, 2) := by decide +kernel
theorem dX12_basin_54 : decode cX12_basin 54 = .ok (.invokevirtual 415, 3) := by decide +kernel
theorem dX12_basin_57 : decode cX12_basin 57 = .ok (.iload_n 3, 1) := by decide +kernel
theorem dX12_basin_58 : decode cX12_basin 58 = .ok (.if_icmp .ne 7, 3) := by decide +kernel
theorem dX12_basin_61 : decode cX12_basin 61 = .ok (.iconst 1, 1) := by decide +kernel
theorem dX12_basin_62 : decode cX12_basin 62 = .ok (.goto 4, 3) := by decide +kernel
theorem dX12_basin_65 : decode cX12_basin 65 = .ok (.iconst 0, 1) := by decide +kernel
theorem dX12_basin_66 : decode cX12_basin 66 = .ok (.iadd, 1) := by decide +kernel
theorem dX12_basin_67 : decode cX12_basin 67 = .ok (.istore 4, 2) := by decide +kernel
theorem dX12_basin_69 : decode cX12_basin 69 = .ok (.iinc 5 1, 3) := by decide +kernel
theorem dX12_basin_72 : decode cX12_basin 72 = .ok (.goto (-32), 3) := by decide +kernel
theorem dX12_basin_75 : decode cX12_basin 75 = .ok (.iload 4, 2) := by decide +kernel
theorem dX12_basin_77 : decode cX12_basin 77 = .ok (.ireturn, 1) := by decide +kernel
theorem dX12_longest_0 : decode cX12_longest 0 = .ok (.aload_n 0, 1) := by decide +kernel
theorem dX12_longest_1 : decode cX12_longest 1 = .ok (.iconst 0, 1) := by decide +kernel
theorem dX12_longest_2 : decode cX12_longest 2 = .ok (.putfield 107, 3) := by decide +kernel
theorem dX12_longest_5 : decode cX12_longest 5 = .ok (.iload_n 1, 1) := by decide +kernel
theorem dX12_longest_6 : decode cX12_longest 6 = .ok (.invokestatic 403, 3) := by decide +kernel
theorem dX12_longest_9 : decode cX12_longest 9 = .ok (.ifCond .eq 10, 3) := by decide +kernel
theorem dX12_longest_12 : decode cX12_longest 12 = .ok (.iload_n 2, 1) := by decide +kernel
theorem dX12_longest_13 : decode cX12_longest 13 = .ok (.invokestatic 403, 3) := by decide +kernel
theorem dX12_longest_16 : decode cX12_longest 16 = .ok (.ifCond .ne 6, 3) := by decide +kernel
theorem dX12_longest_19 : decode cX12_longest 19 = .ok (.bipush (-2), 2) := by decide +kernel
theorem dX12_longest_21 : decode cX12_longest 21 = .ok (.ireturn, 1) := by decide +kernel
theorem dX12_longest_22 : decode cX12_longest 22 = .ok (.iconst 0, 1) := by decide +kernel
theorem dX12_longest_23 : decode cX12_longest 23 = .ok (.istore_n 3, 1) := by decide +kernel
theorem dX12_longest_24 : decode cX12_longest 24 = .ok (.iconst 0, 1) := by decide +kernel
theorem dX12_longest_25 : decode cX12_longest 25 = .ok (.istore 4, 2) := by decide +kernel
theorem dX12_longest_27 : decode cX12_longest 27 = .ok (.iload 4, 2) := by decide +kernel
theorem dX12_longest_29 : decode cX12_longest 29 = .ok (.bipush 16, 2) := by decide +kernel
theorem dX12_longest_31 : decode cX12_longest 31 = .ok (.if_icmp .ge 34, 3) := by decide +kernel
theorem dX12_longest_34 : decode cX12_longest 34 = .ok (.aload_n 0, 1) := by decide +kernel
theorem dX12_longest_35 : decode cX12_longest 35 = .ok (.iload_n 1, 1) := by decide +kernel
theorem dX12_longest_36 : decode cX12_longest 36 = .ok (.iload_n 2, 1) := by decide +kernel
theorem dX12_longest_37 : decode cX12_longest 37 = .ok (.iload 4, 2) := by decide +kernel
theorem dX12_longest_39 : decode cX12_longest 39 = .ok (.invokevirtual 400, 3) := by decide +kernel
theorem dX12_longest_42 : decode cX12_longest 42 = .ok (.aload_n 0, 1) := by decide +kernel
theorem dX12_longest_43 : decode cX12_longest 43 = .ok (.getfield 388, 3) := by decide +kernel
theorem dX12_longest_46 : decode cX12_longest 46 = .ok (.iload_n 3, 1) := by decide +kernel
theorem dX12_longest_47 : decode cX12_longest 47 = .ok (.if_icmp .le 10, 3) := by decide +kernel
theorem dX12_longest_50 : decode cX12_longest 50 = .ok (.aload_n 0, 1) := by decide +kernel
theorem dX12_longest_51 : decode cX12_longest 51 = .ok (.getfield 388, 3) := by decide +kernel
theorem dX12_longest_54 : decode cX12_longest 54 = .ok (.goto 4, 3) := by decide +kernel
theorem dX12_longest_57 : decode cX12_longest 57 = .ok (.iload_n 3, 1) := by decide +kernel
theorem dX12_longest_58 : decode cX12_longest 58 = .ok (.istore_n 3, 1) := by decide +kernel
theorem dX12_longest_59 : decode cX12_longest 59 = .ok (.iinc 4 1, 3) := by decide +kernel
theorem dX12_longest_62 : decode cX12_longest 62 = .ok (.goto (-35), 3) := by decide +kernel
theorem dX12_longest_65 : decode cX12_longest 65 = .ok (.iload_n 3, 1) := by decide +kernel
theorem dX12_longest_66 : decode cX12_longest 66 = .ok (.ireturn, 1) := by decide +kernel
theorem dX12_faithful_0 : decode cX12_faithful 0 = .ok (.aload_n 0, 1) := by decide +kernel
theorem dX12_faithful_1 : decode cX12_faithful 1 = .ok (.iconst 0, 1) := by decide +kernel
theorem dX12_faithful_2 : decode cX12_faithful 2 = .ok (.putfield 107, 3) := by decide +kernel
theorem dX12_faithful_5 : decode cX12_faithful 5 = .ok (.iload_n 1, 1) := by decide +kernel
theorem dX12_faithful_6 : decode cX12_faithful 6 = .ok (.invokestatic 403, 3) := by decide +kernel
theorem dX12_faithful_9 : decode cX12_faithful 9 = .ok (.ifCond .ne 6, 3) := by decide +kernel
theorem dX12_faithful_12 : decode cX12_faithful 12 = .ok (.bipush (-2), 2) := by decide +kernel
theorem dX12_faithful_14 : decode cX12_faithful 14 = .ok (.ireturn, 1) := by decide +kernel
theorem dX12_faithful_15 : decode cX12_faithful 15 = .ok (.iconst 0, 1) := by decide +kernel
theorem dX12_faithful_16 : decode cX12_faithful 16 = .ok (.istore_n 2, 1) := by decide +kernel
theorem dX12_faithful_17 : decode cX12_faithful 17 = .ok (.iconst 0, 1) := by decide +kernel
theorem dX12_faithful_18 : decode cX12_faithful 18 = .ok (.istore_n 3, 1) := by decide +kernel
theorem dX12_faithful_19 : decode cX12_faithful 19 = .ok (.iload_n 3, 1) := by decide +kernel
theorem dX12_faithful_20 : decode cX12_faithful 20 = .ok (.bipush 32, 2) := by decide +kernel
theorem dX12_faithful_22 : decode cX12_faithful 22 = .ok (.if_icmp .ge 64, 3) := by decide +kernel
theorem dX12_faithful_25 : decode cX12_faithful 25 = .ok (.iconst 1, 1) := by decide +kernel
theorem dX12_faithful_26 : decode cX12_faithful 26 = .ok (.istore 4, 2) := by decide +kernel
theorem dX12_faithful_28 : decode cX12_faithful 28 = .ok (.iconst 0, 1) := by decide +kernel
theorem dX12_faithful_29 : decode cX12_faithful 29 = .ok (.istore 5, 2) := by decide +kernel
theorem dX12_faithful_31 : decode cX12_faithful 31 = .ok (.iload 5, 2) := by decide +kernel
theorem dX12_faithful_33 : decode cX12_faithful 33 = .ok (.bipush 16, 2) := by decide +kernel
theorem dX12_faithful_35 : decode cX12_faithful 35 = .ok (.if_icmp .ge 32, 3) := by decide +kernel
theorem dX12_faithful_38 : decode cX12_faithful 38 = .ok (.iload 4, 2) := by decide +kernel
theorem dX12_faithful_40 : decode cX12_faithful 40 = .ok (.ifCond .eq 27, 3) := by decide +kernel
theorem dX12_faithful_43 : decode cX12_faithful 43 = .ok (.aload_n 0, 1) := by decide +kernel
theorem dX12_faithful_44 : decode cX12_faithful 44 = .ok (.iload_n 3, 1) := by decide +kernel
theorem dX12_faithful_45 : decode cX12_faithful 45 = .ok (.iload_n 1, 1) := by decide +kernel
theorem dX12_faithful_46 : decode cX12_faithful 46 = .ok (.iload 5, 2) := by decide +kernel
theorem dX12_faithful_48 : decode cX12_faithful 48 = .ok (.invokevirtual 415, 3) := by decide +kernel
theorem dX12_faithful_51 : decode cX12_faithful 51 = .ok (.ifCond .eq 7, 3) := by decide +kernel
theorem dX12_faithful_54 : decode cX12_faithful 54 = .ok (.iconst 1, 1) := by decide +kernel
theorem dX12_faithful_55 : decode cX12_faithful 55 = .ok (.goto 4, 3) := by decide +kernel
theorem dX12_faithful_58 : decode cX12_faithful 58 = .ok (.iconst 0, 1) := by decide +kernel
theorem dX12_faithful_59 : decode cX12_faithful 59 = .ok (.istore 4, 2) := by decide +kernel
theorem dX12_faithful_61 : decode cX12_faithful 61 = .ok (.iinc 5 1, 3) := by decide +kernel
theorem dX12_faithful_64 : decode cX12_faithful 64 = .ok (.goto (-33), 3) := by decide +kernel
theorem dX12_faithful_67 : decode cX12_faithful 67 = .ok (.iload_n 2, 1) := by decide +kernel
theorem dX12_faithful_68 : decode cX12_faithful 68 = .ok (.iload 4, 2) := by decide +kernel
theorem dX12_faithful_70 : decode cX12_faithful 70 = .ok (.ifCond .eq 7, 3) := by decide +kernel
theorem dX12_faithful_73 : decode cX12_faithful 73 = .ok (.iconst 1, 1) := by decide +kernel
theorem dX12_faithful_74 : decode cX12_faithful 74 = .ok (.goto 4, 3) := by decide +kernel
theorem dX12_faithful_77 : decode cX12_faithful 77 = .ok (.iconst 0, 1) := by decide +kernel
theorem dX12_faithful_78 : decode cX12_faithful 78 = .ok (.iadd, 1) := by decide +kernel
theorem dX12_faithful_79 : decode cX12_faithful 79 = .ok (.istore_n 2, 1) := by decide +kernel
theorem dX12_faithful_80 : decode cX12_faithful 80 = .ok (.iinc 3 1, 3) := by decide +kernel
theorem dX12_faithful_83 : decode cX12_faithful 83 = .ok (.goto (-64), 3) := by decide +kernel
theorem dX12_faithful_86 : decode cX12_faithful 86 = .ok (.iload_n 2, 1) := by decide +kernel
theorem dX12_faithful_87 : decode cX12_faithful 87 = .ok (.ireturn, 1) := by decide +kernel
theorem dX12_behindLost_0 : decode cX12_behindLost 0 = .ok (.aload_n 0, 1) := by decide +kernel
theorem dX12_behindLost_1 : decode cX12_behindLost 1 = .ok (.iload_n 1, 1) := by decide +kernel
theorem dX12_behindLost_2 : decode cX12_behindLost 2 = .ok (.invokevirtual 412, 3) := by decide +kernel
theorem dX12_behindLost_5 : decode cX12_behindLost 5 = .ok (.aload_n 0, 1) := by decide +kernel
theorem dX12_behindLost_6 : decode cX12_behindLost 6 = .ok (.getfield 89, 3) := by decide +kernel
theorem dX12_behindLost_9 : decode cX12_behindLost 9 = .ok (.aload_n 0, 1) := by decide +kernel
theorem dX12_behindLost_10 : decode cX12_behindLost 10 = .ok (.getfield 385, 3) := by decide +kernel
theorem dX12_behindLost_13 : decode cX12_behindLost 13 = .ok (.iload_n 3, 1) := by decide +kernel
theorem dX12_behindLost_14 : decode cX12_behindLost 14 = .ok (.iadd, 1) := by decide +kernel
theorem dX12_behindLost_15 : decode cX12_behindLost 15 = .ok (.iaload, 1) := by decide +kernel
theorem dX12_behindLost_16 : decode cX12_behindLost 16 = .ok (.istore 4, 2) := by decide +kernel
theorem dX12_behindLost_18 : decode cX12_behindLost 18 = .ok (.aload_n 0, 1) := by decide +kernel
theorem dX12_behindLost_19 : decode cX12_behindLost 19 = .ok (.getfield 59, 3) := by decide +kernel
theorem dX12_behindLost_22 : decode cX12_behindLost 22 = .ok (.iload_n 2, 1) := by decide +kernel
theorem dX12_behindLost_23 : decode cX12_behindLost 23 = .ok (.iconst 0, 1) := by decide +kernel
theorem dX12_behindLost_24 : decode cX12_behindLost 24 = .ok (.bastore, 1) := by decide +kernel
theorem dX12_behindLost_25 : decode cX12_behindLost 25 = .ok (.aload_n 0, 1) := by decide +kernel
theorem dX12_behindLost_26 : decode cX12_behindLost 26 = .ok (.iload 4, 2) := by decide +kernel
theorem dX12_behindLost_28 : decode cX12_behindLost 28 = .ok (.invokevirtual 333, 3) := by decide +kernel
theorem dX12_behindLost_31 : decode cX12_behindLost 31 = .ok (.istore 5, 2) := by decide +kernel
theorem dX12_behindLost_33 : decode cX12_behindLost 33 = .ok (.aload_n 0, 1) := by decide +kernel
theorem dX12_behindLost_34 : decode cX12_behindLost 34 = .ok (.getfield 59, 3) := by decide +kernel
theorem dX12_behindLost_37 : decode cX12_behindLost 37 = .ok (.iload_n 2, 1) := by decide +kernel
theorem dX12_behindLost_38 : decode cX12_behindLost 38 = .ok (.iconst 1, 1) := by decide +kernel
theorem dX12_behindLost_39 : decode cX12_behindLost 39 = .ok (.bastore, 1) := by decide +kernel
theorem dX12_behindLost_40 : decode cX12_behindLost 40 = .ok (.iload 5, 2) := by decide +kernel
theorem dX12_behindLost_42 : decode cX12_behindLost 42 = .ok (.ireturn, 1) := by decide +kernel
theorem dX12_isInRound_0 : decode cX12_isInRound 0 = .ok (.aload_n 0, 1) := by decide +kernel
theorem dX12_isInRound_1 : decode cX12_isInRound 1 = .ok (.iload_n 1, 1) := by decide +kernel
theorem dX12_isInRound_2 : decode cX12_isInRound 2 = .ok (.invokevirtual 412, 3) := by decide +kernel
theorem dX12_isInRound_5 : decode cX12_isInRound 5 = .ok (.iload_n 2, 1) := by decide +kernel
theorem dX12_isInRound_6 : decode cX12_isInRound 6 = .ok (.i2l, 1) := by decide +kernel
theorem dX12_isInRound_7 : decode cX12_isInRound 7 = .ok (.lconst 0, 1) := by decide +kernel
theorem dX12_isInRound_8 : decode cX12_isInRound 8 = .ok (.aload_n 0, 1) := by decide +kernel
theorem dX12_isInRound_9 : decode cX12_isInRound 9 = .ok (.getfield 388, 3) := by decide +kernel
theorem dX12_isInRound_12 : decode cX12_isInRound 12 = .ok (.iconst 1, 1) := by decide +kernel
theorem dX12_isInRound_13 : decode cX12_isInRound 13 = .ok (.isub, 1) := by decide +kernel
theorem dX12_isInRound_14 : decode cX12_isInRound 14 = .ok (.i2l, 1) := by decide +kernel
theorem dX12_isInRound_15 : decode cX12_isInRound 15 = .ok (.invokestatic 112, 3) := by decide +kernel
theorem dX12_isInRound_18 : decode cX12_isInRound 18 = .ok (.ireturn, 1) := by decide +kernel
theorem dX12_lost_0 : decode cX12_lost 0 = .ok (.aload_n 0, 1) := by decide +kernel
theorem dX12_lost_1 : decode cX12_lost 1 = .ok (.iconst 0, 1) := by decide +kernel
theorem dX12_lost_2 : decode cX12_lost 2 = .ok (.putfield 107, 3) := by decide +kernel
theorem dX12_lost_5 : decode cX12_lost 5 = .ok (.aload_n 0, 1) := by decide +kernel
theorem dX12_lost_6 : decode cX12_lost 6 = .ok (.iload_n 1, 1) := by decide +kernel
theorem dX12_lost_7 : decode cX12_lost 7 = .ok (.invokevirtual 281, 3) := by decide +kernel
theorem dX12_lost_10 : decode cX12_lost 10 = .ok (.ifCond .eq 19, 3) := by decide +kernel
theorem dX12_lost_13 : decode cX12_lost 13 = .ok (.iload_n 2, 1) := by decide +kernel
theorem dX12_lost_14 : decode cX12_lost 14 = .ok (.invokestatic 340, 3) := by decide +kernel
theorem dX12_lost_17 : decode cX12_lost 17 = .ok (.ifCond .eq 12, 3) := by decide +kernel
theorem dX12_lost_20 : decode cX12_lost 20 = .ok (.aload_n 0, 1) := by decide +kernel
theorem dX12_lost_21 : decode cX12_lost 21 = .ok (.iload_n 1, 1) := by decide +kernel
theorem dX12_lost_22 : decode cX12_lost 22 = .ok (.iload_n 3, 1) := by decide +kernel
theorem dX12_lost_23 : decode cX12_lost 23 = .ok (.invokevirtual 418, 3) := by decide +kernel
theorem dX12_lost_26 : decode cX12_lost 26 = .ok (.ifCond .ne 6, 3) := by decide +kernel
theorem dX12_lost_29 : decode cX12_lost 29 = .ok (.bipush (-2), 2) := by decide +kernel
theorem dX12_lost_31 : decode cX12_lost 31 = .ok (.ireturn, 1) := by decide +kernel
theorem dX12_lost_32 : decode cX12_lost 32 = .ok (.aload_n 0, 1) := by decide +kernel
theorem dX12_lost_33 : decode cX12_lost 33 = .ok (.aload_n 0, 1) := by decide +kernel
theorem dX12_lost_34 : decode cX12_lost 34 = .ok (.iload_n 1, 1) := by decide +kernel
theorem dX12_lost_35 : decode cX12_lost 35 = .ok (.iconst 0, 1) := by decide +kernel
theorem dX12_lost_36 : decode cX12_lost 36 = .ok (.invokevirtual 409, 3) := by decide +kernel
theorem dX12_lost_39 : decode cX12_lost 39 = .ok (.aload_n 0, 1) := by decide +kernel
theorem dX12_lost_40 : decode cX12_lost 40 = .ok (.iload_n 1, 1) := by decide +kernel
theorem dX12_lost_41 : decode cX12_lost 41 = .ok (.iconst 1, 1) := by decide +kernel
theorem dX12_lost_42 : decode cX12_lost 42 = .ok (.invokevirtual 409, 3) := by decide +kernel
theorem dX12_lost_45 : decode cX12_lost 45 = .ok (.aload_n 0, 1) := by decide +kernel
theorem dX12_lost_46 : decode cX12_lost 46 = .ok (.iload_n 1, 1) := by decide +kernel
theorem dX12_lost_47 : decode cX12_lost 47 = .ok (.iload_n 2, 1) := by decide +kernel
theorem dX12_lost_48 : decode cX12_lost 48 = .ok (.iload_n 3, 1) := by decide +kernel
theorem dX12_lost_49 : decode cX12_lost 49 = .ok (.invokevirtual 421, 3) := by decide +kernel
theorem dX12_lost_52 : decode cX12_lost 52 = .ok (.invokevirtual 415, 3) := by decide +kernel
theorem dX12_lost_55 : decode cX12_lost 55 = .ok (.ireturn, 1) := by decide +kernel
