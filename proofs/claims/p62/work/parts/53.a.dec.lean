theorem dX11_saves_0 : decode cX11_saves 0 = .ok (.aload_n 0, 1) := by decide +kernel
theorem dX11_saves_1 : decode cX11_saves 1 = .ok (.getfield 19, 3) := by decide +kernel
theorem dX11_saves_4 : decode cX11_saves 4 = .ok (.iload_n 1, 1) := by decide +kernel
theorem dX11_saves_5 : decode cX11_saves 5 = .ok (.invokevirtual 184, 3) := by decide +kernel
theorem dX11_saves_8 : decode cX11_saves 8 = .ok (.ifCond .eq 12, 3) := by decide +kernel
theorem dX11_saves_11 : decode cX11_saves 11 = .ok (.aload_n 0, 1) := by decide +kernel
theorem dX11_saves_12 : decode cX11_saves 12 = .ok (.iload_n 1, 1) := by decide +kernel
theorem dX11_saves_13 : decode cX11_saves 13 = .ok (.iconst 1, 1) := by decide +kernel
theorem dX11_saves_14 : decode cX11_saves 14 = .ok (.invokevirtual 268, 3) := by decide +kernel
theorem dX11_saves_17 : decode cX11_saves 17 = .ok (.goto 5, 3) := by decide +kernel
theorem dX11_saves_20 : decode cX11_saves 20 = .ok (.bipush (-2), 2) := by decide +kernel
theorem dX11_saves_22 : decode cX11_saves 22 = .ok (.ireturn, 1) := by decide +kernel
theorem dX11_mildest_0 : decode cX11_mildest 0 = .ok (.aload_n 0, 1) := by decide +kernel
theorem dX11_mildest_1 : decode cX11_mildest 1 = .ok (.getfield 19, 3) := by decide +kernel
theorem dX11_mildest_4 : decode cX11_mildest 4 = .ok (.invokevirtual 220, 3) := by decide +kernel
theorem dX11_mildest_7 : decode cX11_mildest 7 = .ok (.ifCond .ne 6, 3) := by decide +kernel
theorem dX11_mildest_10 : decode cX11_mildest 10 = .ok (.bipush (-2), 2) := by decide +kernel
theorem dX11_mildest_12 : decode cX11_mildest 12 = .ok (.ireturn, 1) := by decide +kernel
theorem dX11_mildest_13 : decode cX11_mildest 13 = .ok (.iconst 0, 1) := by decide +kernel
theorem dX11_mildest_14 : decode cX11_mildest 14 = .ok (.istore_n 1, 1) := by decide +kernel
theorem dX11_mildest_15 : decode cX11_mildest 15 = .ok (.bipush 17, 2) := by decide +kernel
theorem dX11_mildest_17 : decode cX11_mildest 17 = .ok (.istore_n 2, 1) := by decide +kernel
theorem dX11_mildest_18 : decode cX11_mildest 18 = .ok (.iconst 0, 1) := by decide +kernel
theorem dX11_mildest_19 : decode cX11_mildest 19 = .ok (.istore_n 3, 1) := by decide +kernel
theorem dX11_mildest_20 : decode cX11_mildest 20 = .ok (.iload_n 3, 1) := by decide +kernel
theorem dX11_mildest_21 : decode cX11_mildest 21 = .ok (.aload_n 0, 1) := by decide +kernel
theorem dX11_mildest_22 : decode cX11_mildest 22 = .ok (.getfield 19, 3) := by decide +kernel
theorem dX11_mildest_25 : decode cX11_mildest 25 = .ok (.getfield 177, 3) := by decide +kernel
theorem dX11_mildest_28 : decode cX11_mildest 28 = .ok (.if_icmp .ge 28, 3) := by decide +kernel
theorem dX11_mildest_31 : decode cX11_mildest 31 = .ok (.aload_n 0, 1) := by decide +kernel
theorem dX11_mildest_32 : decode cX11_mildest 32 = .ok (.iload_n 3, 1) := by decide +kernel
theorem dX11_mildest_33 : decode cX11_mildest 33 = .ok (.iconst 0, 1) := by decide +kernel
theorem dX11_mildest_34 : decode cX11_mildest 34 = .ok (.invokevirtual 268, 3) := by decide +kernel
theorem dX11_mildest_37 : decode cX11_mildest 37 = .ok (.istore 4, 2) := by decide +kernel
theorem dX11_mildest_39 : decode cX11_mildest 39 = .ok (.iload 4, 2) := by decide +kernel
theorem dX11_mildest_41 : decode cX11_mildest 41 = .ok (.iload_n 2, 1) := by decide +kernel
theorem dX11_mildest_42 : decode cX11_mildest 42 = .ok (.if_icmp .ge 8, 3) := by decide +kernel
theorem dX11_mildest_45 : decode cX11_mildest 45 = .ok (.iload 4, 2) := by decide +kernel
theorem dX11_mildest_47 : decode cX11_mildest 47 = .ok (.istore_n 2, 1) := by decide +kernel
theorem dX11_mildest_48 : decode cX11_mildest 48 = .ok (.iload_n 3, 1) := by decide +kernel
theorem dX11_mildest_49 : decode cX11_mildest 49 = .ok (.istore_n 1, 1) := by decide +kernel
theorem dX11_mildest_50 : decode cX11_mildest 50 = .ok (.iinc 3 1, 3) := by decide +kernel
theorem dX11_mildest_53 : decode cX11_mildest 53 = .ok (.goto (-33), 3) := by decide +kernel
theorem dX11_mildest_56 : decode cX11_mildest 56 = .ok (.iload_n 1, 1) := by decide +kernel
theorem dX11_mildest_57 : decode cX11_mildest 57 = .ok (.ireturn, 1) := by decide +kernel
theorem dX11_alive_0 : decode cX11_alive 0 = .ok (.aload_n 0, 1) := by decide +kernel
theorem dX11_alive_1 : decode cX11_alive 1 = .ok (.iload_n 1, 1) := by decide +kernel
theorem dX11_alive_2 : decode cX11_alive 2 = .ok (.iload_n 2, 1) := by decide +kernel
theorem dX11_alive_3 : decode cX11_alive 3 = .ok (.iload_n 3, 1) := by decide +kernel
theorem dX11_alive_4 : decode cX11_alive 4 = .ok (.invokevirtual 272, 3) := by decide +kernel
theorem dX11_alive_7 : decode cX11_alive 7 = .ok (.ifCond .ne 7, 3) := by decide +kernel
theorem dX11_alive_10 : decode cX11_alive 10 = .ok (.ldc2_w 275, 3) := by decide +kernel
theorem dX11_alive_13 : decode cX11_alive 13 = .ok (.lreturn, 1) := by decide +kernel
theorem dX11_alive_14 : decode cX11_alive 14 = .ok (.aload_n 0, 1) := by decide +kernel
theorem dX11_alive_15 : decode cX11_alive 15 = .ok (.getfield 51, 3) := by decide +kernel
theorem dX11_alive_18 : decode cX11_alive 18 = .ok (.aload_n 0, 1) := by decide +kernel
theorem dX11_alive_19 : decode cX11_alive 19 = .ok (.getfield 19, 3) := by decide +kernel
theorem dX11_alive_22 : decode cX11_alive 22 = .ok (.iload_n 1, 1) := by decide +kernel
theorem dX11_alive_23 : decode cX11_alive 23 = .ok (.iload_n 2, 1) := by decide +kernel
theorem dX11_alive_24 : decode cX11_alive 24 = .ok (.invokevirtual 277, 3) := by decide +kernel
theorem dX11_alive_27 : decode cX11_alive 27 = .ok (.aload_n 0, 1) := by decide +kernel
theorem dX11_alive_28 : decode cX11_alive 28 = .ok (.getfield 51, 3) := by decide +kernel
theorem dX11_alive_31 : decode cX11_alive 31 = .ok (.aload_n 0, 1) := by decide +kernel
theorem dX11_alive_32 : decode cX11_alive 32 = .ok (.getfield 51, 3) := by decide +kernel
theorem dX11_alive_35 : decode cX11_alive 35 = .ok (.getfield 281, 3) := by decide +kernel
theorem dX11_alive_38 : decode cX11_alive 38 = .ok (.iload_n 3, 1) := by decide +kernel
theorem dX11_alive_39 : decode cX11_alive 39 = .ok (.invokevirtual 285, 3) := by decide +kernel
theorem dX11_alive_42 : decode cX11_alive 42 = .ok (.lreturn, 1) := by decide +kernel
theorem dX11_both_0 : decode cX11_both 0 = .ok (.aload_n 0, 1) := by decide +kernel
theorem dX11_both_1 : decode cX11_both 1 = .ok (.iload_n 1, 1) := by decide +kernel
theorem dX11_both_2 : decode cX11_both 2 = .ok (.iload_n 2, 1) := by decide +kernel
theorem dX11_both_3 : decode cX11_both 3 = .ok (.iload_n 3, 1) := by decide +kernel
theorem dX11_both_4 : decode cX11_both 4 = .ok (.invokevirtual 272, 3) := by decide +kernel
theorem dX11_both_7 : decode cX11_both 7 = .ok (.ifCond .ne 7, 3) := by decide +kernel
theorem dX11_both_10 : decode cX11_both 10 = .ok (.ldc2_w 275, 3) := by decide +kernel
theorem dX11_both_13 : decode cX11_both 13 = .ok (.lreturn, 1) := by decide +kernel
theorem dX11_both_14 : decode cX11_both 14 = .ok (.aload_n 0, 1) := by decide +kernel
theorem dX11_both_15 : decode cX11_both 15 = .ok (.getfield 51, 3) := by decide +kernel
theorem dX11_both_18 : decode cX11_both 18 = .ok (.aload_n 0, 1) := by decide +kernel
theorem dX11_both_19 : decode cX11_both 19 = .ok (.getfield 19, 3) := by decide +kernel
theorem dX11_both_22 : decode cX11_both 22 = .ok (.iload_n 1, 1) := by decide +kernel
theorem dX11_both_23 : decode cX11_both 23 = .ok (.iload_n 2, 1) := by decide +kernel
theorem dX11_both_24 : decode cX11_both 24 = .ok (.invokevirtual 277, 3) := by decide +kernel
theorem dX11_both_27 : decode cX11_both 27 = .ok (.aload_n 0, 1) := by decide +kernel
theorem dX11_both_28 : decode cX11_both 28 = .ok (.getfield 51, 3) := by decide +kernel
theorem dX11_both_31 : decode cX11_both 31 = .ok (.aload_n 0, 1) := by decide +kernel
theorem dX11_both_32 : decode cX11_both 32 = .ok (.getfield 51, 3) := by decide +kernel
theorem dX11_both_35 : decode cX11_both 35 = .ok (.getfield 289, 3) := by decide +kernel
theorem dX11_both_38 : decode cX11_both 38 = .ok (.iload_n 3, 1) := by decide +kernel
theorem dX11_both_39 : decode cX11_both 39 = .ok (.invokevirtual 285, 3) := by decide +kernel
theorem dX11_both_42 : decode cX11_both 42 = .ok (.lreturn, 1) := by decide +kernel
