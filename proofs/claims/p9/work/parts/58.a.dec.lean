theorem dX11_life_0 : decode cX11_life 0 = .ok (.aload_n 0, 1) := by decide +kernel
theorem dX11_life_1 : decode cX11_life 1 = .ok (.getfield 19, 3) := by decide +kernel
theorem dX11_life_4 : decode cX11_life 4 = .ok (.invokevirtual 220, 3) := by decide +kernel
theorem dX11_life_7 : decode cX11_life 7 = .ok (.ifCond .eq 18, 3) := by decide +kernel
theorem dX11_life_10 : decode cX11_life 10 = .ok (.iload_n 1, 1) := by decide +kernel
theorem dX11_life_11 : decode cX11_life 11 = .ok (.invokestatic 346, 3) := by decide +kernel
theorem dX11_life_14 : decode cX11_life 14 = .ok (.ifCond .eq 11, 3) := by decide +kernel
theorem dX11_life_17 : decode cX11_life 17 = .ok (.iload_n 2, 1) := by decide +kernel
theorem dX11_life_18 : decode cX11_life 18 = .ok (.iconst 3, 1) := by decide +kernel
theorem dX11_life_19 : decode cX11_life 19 = .ok (.invokestatic 148, 3) := by decide +kernel
theorem dX11_life_22 : decode cX11_life 22 = .ok (.ifCond .ne 6, 3) := by decide +kernel
theorem dX11_life_25 : decode cX11_life 25 = .ok (.bipush (-2), 2) := by decide +kernel
theorem dX11_life_27 : decode cX11_life 27 = .ok (.ireturn, 1) := by decide +kernel
theorem dX11_life_28 : decode cX11_life 28 = .ok (.aload_n 0, 1) := by decide +kernel
theorem dX11_life_29 : decode cX11_life 29 = .ok (.getfield 79, 3) := by decide +kernel
theorem dX11_life_32 : decode cX11_life 32 = .ok (.aload_n 0, 1) := by decide +kernel
theorem dX11_life_33 : decode cX11_life 33 = .ok (.getfield 19, 3) := by decide +kernel
theorem dX11_life_36 : decode cX11_life 36 = .ok (.iload_n 1, 1) := by decide +kernel
theorem dX11_life_37 : decode cX11_life 37 = .ok (.invokevirtual 349, 3) := by decide +kernel
theorem dX11_life_40 : decode cX11_life 40 = .ok (.iload_n 2, 1) := by decide +kernel
theorem dX11_life_41 : decode cX11_life 41 = .ok (.ifCond .ne 11, 3) := by decide +kernel
theorem dX11_life_44 : decode cX11_life 44 = .ok (.aload_n 0, 1) := by decide +kernel
theorem dX11_life_45 : decode cX11_life 45 = .ok (.getfield 79, 3) := by decide +kernel
theorem dX11_life_48 : decode cX11_life 48 = .ok (.getfield 352, 3) := by decide +kernel
theorem dX11_life_51 : decode cX11_life 51 = .ok (.ireturn, 1) := by decide +kernel
theorem dX11_life_52 : decode cX11_life 52 = .ok (.iload_n 2, 1) := by decide +kernel
theorem dX11_life_53 : decode cX11_life 53 = .ok (.iconst 1, 1) := by decide +kernel
theorem dX11_life_54 : decode cX11_life 54 = .ok (.if_icmp .ne 17, 3) := by decide +kernel
theorem dX11_life_57 : decode cX11_life 57 = .ok (.aload_n 0, 1) := by decide +kernel
theorem dX11_life_58 : decode cX11_life 58 = .ok (.getfield 79, 3) := by decide +kernel
theorem dX11_life_61 : decode cX11_life 61 = .ok (.aload_n 0, 1) := by decide +kernel
theorem dX11_life_62 : decode cX11_life 62 = .ok (.getfield 19, 3) := by decide +kernel
theorem dX11_life_65 : decode cX11_life 65 = .ok (.invokevirtual 355, 3) := by decide +kernel
theorem dX11_life_68 : decode cX11_life 68 = .ok (.goto 10, 3) := by decide +kernel
theorem dX11_life_71 : decode cX11_life 71 = .ok (.aload_n 0, 1) := by decide +kernel
theorem dX11_life_72 : decode cX11_life 72 = .ok (.getfield 79, 3) := by decide +kernel
theorem dX11_life_75 : decode cX11_life 75 = .ok (.getfield 359, 3) := by decide +kernel
theorem dX11_life_78 : decode cX11_life 78 = .ok (.ireturn, 1) := by decide +kernel
theorem dX11_lives_0 : decode cX11_lives 0 = .ok (.aload_n 0, 1) := by decide +kernel
theorem dX11_lives_1 : decode cX11_lives 1 = .ok (.getfield 19, 3) := by decide +kernel
theorem dX11_lives_4 : decode cX11_lives 4 = .ok (.iload_n 2, 1) := by decide +kernel
theorem dX11_lives_5 : decode cX11_lives 5 = .ok (.invokevirtual 135, 3) := by decide +kernel
theorem dX11_lives_8 : decode cX11_lives 8 = .ok (.ifCond .eq 10, 3) := by decide +kernel
theorem dX11_lives_11 : decode cX11_lives 11 = .ok (.iload_n 1, 1) := by decide +kernel
theorem dX11_lives_12 : decode cX11_lives 12 = .ok (.invokestatic 346, 3) := by decide +kernel
theorem dX11_lives_15 : decode cX11_lives 15 = .ok (.ifCond .ne 6, 3) := by decide +kernel
theorem dX11_lives_18 : decode cX11_lives 18 = .ok (.bipush (-2), 2) := by decide +kernel
theorem dX11_lives_20 : decode cX11_lives 20 = .ok (.ireturn, 1) := by decide +kernel
theorem dX11_lives_21 : decode cX11_lives 21 = .ok (.aload_n 0, 1) := by decide +kernel
theorem dX11_lives_22 : decode cX11_lives 22 = .ok (.getfield 79, 3) := by decide +kernel
theorem dX11_lives_25 : decode cX11_lives 25 = .ok (.aload_n 0, 1) := by decide +kernel
theorem dX11_lives_26 : decode cX11_lives 26 = .ok (.getfield 19, 3) := by decide +kernel
theorem dX11_lives_29 : decode cX11_lives 29 = .ok (.iload_n 1, 1) := by decide +kernel
theorem dX11_lives_30 : decode cX11_lives 30 = .ok (.invokevirtual 349, 3) := by decide +kernel
theorem dX11_lives_33 : decode cX11_lives 33 = .ok (.aload_n 0, 1) := by decide +kernel
theorem dX11_lives_34 : decode cX11_lives 34 = .ok (.getfield 79, 3) := by decide +kernel
theorem dX11_lives_37 : decode cX11_lives 37 = .ok (.getfield 362, 3) := by decide +kernel
theorem dX11_lives_40 : decode cX11_lives 40 = .ok (.iload_n 2, 1) := by decide +kernel
theorem dX11_lives_41 : decode cX11_lives 41 = .ok (.iaload, 1) := by decide +kernel
theorem dX11_lives_42 : decode cX11_lives 42 = .ok (.ireturn, 1) := by decide +kernel
theorem dX11_lasts_0 : decode cX11_lasts 0 = .ok (.aload_n 0, 1) := by decide +kernel
theorem dX11_lasts_1 : decode cX11_lasts 1 = .ok (.getfield 19, 3) := by decide +kernel
theorem dX11_lasts_4 : decode cX11_lasts 4 = .ok (.iload_n 3, 1) := by decide +kernel
theorem dX11_lasts_5 : decode cX11_lasts 5 = .ok (.invokevirtual 135, 3) := by decide +kernel
theorem dX11_lasts_8 : decode cX11_lasts 8 = .ok (.ifCond .eq 21, 3) := by decide +kernel
theorem dX11_lasts_11 : decode cX11_lasts 11 = .ok (.iload_n 1, 1) := by decide +kernel
theorem dX11_lasts_12 : decode cX11_lasts 12 = .ok (.invokestatic 346, 3) := by decide +kernel
theorem dX11_lasts_15 : decode cX11_lasts 15 = .ok (.ifCond .eq 14, 3) := by decide +kernel
theorem dX11_lasts_18 : decode cX11_lasts 18 = .ok (.iload_n 2, 1) := by decide +kernel
theorem dX11_lasts_19 : decode cX11_lasts 19 = .ok (.iconst 1, 1) := by decide +kernel
theorem dX11_lasts_20 : decode cX11_lasts 20 = .ok (.if_icmp .lt 9, 3) := by decide +kernel
theorem dX11_lasts_23 : decode cX11_lasts 23 = .ok (.iload_n 2, 1) := by decide +kernel
theorem dX11_lasts_24 : decode cX11_lasts 24 = .ok (.bipush 20, 2) := by decide +kernel
theorem dX11_lasts_26 : decode cX11_lasts 26 = .ok (.if_icmp .le 6, 3) := by decide +kernel
theorem dX11_lasts_29 : decode cX11_lasts 29 = .ok (.bipush (-2), 2) := by decide +kernel
theorem dX11_lasts_31 : decode cX11_lasts 31 = .ok (.ireturn, 1) := by decide +kernel
theorem dX11_lasts_32 : decode cX11_lasts 32 = .ok (.iconst 0, 1) := by decide +kernel
theorem dX11_lasts_33 : decode cX11_lasts 33 = .ok (.istore 4, 2) := by decide +kernel
theorem dX11_lasts_35 : decode cX11_lasts 35 = .ok (.iconst 0, 1) := by decide +kernel
theorem dX11_lasts_36 : decode cX11_lasts 36 = .ok (.istore 5, 2) := by decide +kernel
theorem dX11_lasts_38 : decode cX11_lasts 38 = .ok (.iload 5, 2) := by decide +kernel
theorem dX11_lasts_40 : decode cX11_lasts 40 = .ok (.iload_n 2, 1) := by decide +kernel
theorem dX11_lasts_41 : decode cX11_lasts 41 = .ok (.if_icmp .ge 48, 3) := by decide +kernel
theorem dX11_lasts_44 : decode cX11_lasts 44 = .ok (.aload_n 0, 1) := by decide +kernel
theorem dX11_lasts_45 : decode cX11_lasts 45 = .ok (.getfield 79, 3) := by decide +kernel
theorem dX11_lasts_48 : decode cX11_lasts 48 = .ok (.aload_n 0, 1) := by decide +kernel
theorem dX11_lasts_49 : decode cX11_lasts 49 = .ok (.getfield 19, 3) := by decide +kernel
theorem dX11_lasts_52 : decode cX11_lasts 52 = .ok (.iload_n 1, 1) := by decide +kernel
theorem dX11_lasts_53 : decode cX11_lasts 53 = .ok (.iload 5, 2) := by decide +kernel
theorem dX11_lasts_55 : decode cX11_lasts 55 = .ok (.iadd, 1) := by decide +kernel
theorem dX11_lasts_56 : decode cX11_lasts 56 = .ok (.invokevirtual 349, 3) := by decide +kernel
theorem dX11_lasts_59 : decode cX11_lasts 59 = .ok (.aload_n 0, 1) := by decide +kernel
theorem dX11_lasts_60 : decode cX11_lasts 60 = .ok (.getfield 79, 3) := by decide +kernel
theorem dX11_lasts_63 : decode cX11_lasts 63 = .ok (.getfield 362, 3) := by decide +kernel
theorem dX11_lasts_66 : decode cX11_lasts 66 = .ok (.iload_n 3, 1) := by decide +kernel
theorem dX11_lasts_67 : decode cX11_lasts 67 = .ok (.iaload, 1) := by decide +kernel
theorem dX11_lasts_68 : decode cX11_lasts 68 = .ok (.aload_n 0, 1) := by decide +kernel
theorem dX11_lasts_69 : decode cX11_lasts 69 = .ok (.getfield 19, 3) := by decide +kernel
theorem dX11_lasts_72 : decode cX11_lasts 72 = .ok (.getfield 177, 3) := by decide +kernel
theorem dX11_lasts_75 : decode cX11_lasts 75 = .ok (.iconst 1, 1) := by decide +kernel
theorem dX11_lasts_76 : decode cX11_lasts 76 = .ok (.isub, 1) := by decide +kernel
theorem dX11_lasts_77 : decode cX11_lasts 77 = .ok (.if_icmp .ne 6, 3) := by decide +kernel
theorem dX11_lasts_80 : decode cX11_lasts 80 = .ok (.iinc 4 1, 3) := by decide +kernel
theorem dX11_lasts_83 : decode cX11_lasts 83 = .ok (.iinc 5 1, 3) := by decide +kernel
theorem dX11_lasts_86 : decode cX11_lasts 86 = .ok (.goto (-48), 3) := by decide +kernel
theorem dX11_lasts_89 : decode cX11_lasts 89 = .ok (.iload 4, 2) := by decide +kernel
theorem dX11_lasts_91 : decode cX11_lasts 91 = .ok (.ireturn, 1) := by decide +kernel
