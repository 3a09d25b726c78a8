theorem dX11_lives_0 : decode cX11_lives 0 = .ok (.aload_n 0, 1) := by decide +kernel
theorem dX11_lives_1 : decode cX11_lives 1 = .ok (.getfield 19, 3) := by decide +kernel
theorem dX11_lives_4 : decode cX11_lives 4 = .ok (.iload_n 2, 1) := by decide +kernel
theorem dX11_lives_5 : decode cX11_lives 5 = .ok (.invokevirtual 135, 3) := by decide +kernel
theorem dX11_lives_8 : decode cX11_lives 8 = .ok (.ifCond .eq 10, 3) := by decide +kernel
theorem dX11_lives_11 : decode cX11_lives 11 = .ok (.iload_n 1, 1) := by decide +kernel
theorem dX11_lives_12 : decode cX11_lives 12 = .ok (.invokestatic 346, 3) := by decide +kernel
theorem dX11_lives_15 : decode cX11_lives 15 = .ok (.ifCond .ne 6, 3) := by decide +kernel
theorem dX11_lives_18 : decode cX11_lives 18 = .ok (.bipush (-2), 2) := by decide +kernel
theorem dX11_lives_20 : decode cX11_lives 20 = .ok (.ireturn, 1) := by decide +kernel
theorem dX11_lives_21 : decode cX11_lives 21 = .ok (.aload_n 0, 1) := by decide +kernel
theorem dX11_lives_22 : decode cX11_lives 22 = .ok (.getfield 79, 3) := by decide +kernel
theorem dX11_lives_25 : decode cX11_lives 25 = .ok (.aload_n 0, 1) := by decide +kernel
theorem dX11_lives_26 : decode cX11_lives 26 = .ok (.getfield 19, 3) := by decide +kernel
theorem dX11_lives_29 : decode cX11_lives 29 = .ok (.iload_n 1, 1) := by decide +kernel
theorem dX11_lives_30 : decode cX11_lives 30 = .ok (.invokevirtual 349, 3) := by decide +kernel
theorem dX11_lives_33 : decode cX11_lives 33 = .ok (.aload_n 0, 1) := by decide +kernel
theorem dX11_lives_34 : decode cX11_lives 34 = .ok (.getfield 79, 3) := by decide +kernel
theorem dX11_lives_37 : decode cX11_lives 37 = .ok (.getfield 362, 3) := by decide +kernel
theorem dX11_lives_40 : decode cX11_lives 40 = .ok (.iload_n 2, 1) := by decide +kernel
theorem dX11_lives_41 : decode cX11_lives 41 = .ok (.iaload, 1) := by decide +kernel
theorem dX11_lives_42 : decode cX11_lives 42 = .ok (.ireturn, 1) := by decide +kernel
theorem dX11_lasts_0 : decode cX11_lasts 0 = .ok (.aload_n 0, 1) := by decide +kernel
theorem dX11_lasts_1 : decode cX11_lasts 1 = .ok (.getfield 19, 3) := by decide +kernel
theorem dX11_lasts_4 : decode cX11_lasts 4 = .ok (.iload_n 3, 1) := by decide +kernel
theorem dX11_lasts_5 : decode cX11_lasts 5 = .ok (.invokevirtual 135, 3) := by decide +kernel
theorem dX11_lasts_8 : decode cX11_lasts 8 = .ok (.ifCond .eq 21, 3) := by decide +kernel
theorem dX11_lasts_11 : decode cX11_lasts 11 = .ok (.iload_n 1, 1) := by decide +kernel
theorem dX11_lasts_12 : decode cX11_lasts 12 = .ok (.invokestatic 346, 3) := by decide +kernel
theorem dX11_lasts_15 : decode cX11_lasts 15 = .ok (.ifCond .eq 14, 3) := by decide +kernel
theorem dX11_lasts_18 : decode cX11_lasts 18 = .ok (.iload_n 2, 1) := by decide +kernel
theorem dX11_lasts_19 : decode cX11_lasts 19 = .ok (.iconst 1, 1) := by decide +kernel
theorem dX11_lasts_20 : decode cX11_lasts 20 = .ok (.if_icmp .lt 9, 3) := by decide +kernel
theorem dX11_lasts_23 : decode cX11_lasts 23 = .ok (.iload_n 2, 1) := by decide +kernel
theorem dX11_lasts_24 : decode cX11_lasts 24 = .ok (.bipush 20, 2) := by decide +kernel
theorem dX11_lasts_26 : decode cX11_lasts 26 = .ok (.if_icmp .le 6, 3) := by decide +kernel
theorem dX11_lasts_29 : decode cX11_lasts 29 = .ok (.bipush (-2), 2) := by decide +kernel
theorem dX11_lasts_31 : decode cX11_lasts 31 = .ok (.ireturn, 1) := by decide +kernel
theorem dX11_lasts_32 : decode cX11_lasts 32 = .ok (.iconst 0, 1) := by decide +kernel
theorem dX11_lasts_33 : decode cX11_lasts 33 = .ok (.istore 4, 2) := by decide +kernel
theorem dX11_lasts_35 : decode cX11_lasts 35 = .ok (.iconst 0, 1) := by decide +kernel
theorem dX11_lasts_36 : decode cX11_lasts 36 = .ok (.istore 5, 2) := by decide +kernel
theorem dX11_lasts_38 : decode cX11_lasts 38 = .ok (.iload 5, 2) := by decide +kernel
theorem dX11_lasts_40 : decode cX11_lasts 40 = .ok (.iload_n 2, 1) := by decide +kernel
theorem dX11_lasts_41 : decode cX11_lasts 41 = .ok (.if_icmp .ge 48, 3) := by decide +kernel
theorem dX11_lasts_44 : decode cX11_lasts 44 = .ok (.aload_n 0, 1) := by decide +kernel
theorem dX11_lasts_45 : decode cX11_lasts 45 = .ok (.getfield 79, 3) := by decide +kernel
theorem dX11_lasts_48 : decode cX11_lasts 48 = .ok (.aload_n 0, 1) := by decide +kernel
theorem dX11_lasts_49 : decode cX11_lasts 49 = .ok (.getfield 19, 3) := by decide +kernel
theorem dX11_lasts_52 : decode cX11_lasts 52 = .ok (.iload_n 1, 1) := by decide +kernel
theorem dX11_lasts_53 : decode cX11_lasts 53 = .ok (.iload 5, 2) := by decide +kernel
theorem dX11_lasts_55 : decode cX11_lasts 55 = .ok (.iadd, 1) := by decide +kernel
theorem dX11_lasts_56 : decode cX11_lasts 56 = .ok (.invokevirtual 349, 3) := by decide +kernel
theorem dX11_lasts_59 : decode cX11_lasts 59 = .ok (.aload_n 0, 1) := by decide +kernel
theorem dX11_lasts_60 : decode cX11_lasts 60 = .ok (.getfield 79, 3) := by decide +kernel
theorem dX11_lasts_63 : decode cX11_lasts 63 = .ok (.getfield 362, 3) := by decide +kernel
theorem dX11_lasts_66 : decode cX11_lasts 66 = .ok (.iload_n 3, 1) := by decide +kernel
theorem dX11_lasts_67 : decode cX11_lasts 67 = .ok (.iaload, 1) := by decide +kernel
theorem dX11_lasts_68 : decode cX11_lasts 68 = .ok (.aload_n 0, 1) := by decide +kernel
theorem dX11_lasts_69 : decode cX11_lasts 69 = .ok (.getfield 19, 3) := by decide +kernel
theorem dX11_lasts_72 : decode cX11_lasts 72 = .ok (.getfield 177, 3) := by decide +kernel
theorem dX11_lasts_75 : decode cX11_lasts 75 = .ok (.iconst 1, 1) := by decide +kernel
theorem dX11_lasts_76 : decode cX11_lasts 76 = .ok (.isub, 1) := by decide +kernel
theorem dX11_lasts_77 : decode cX11_lasts 77 = .ok (.if_icmp .ne 6, 3) := by decide +kernel
theorem dX11_lasts_80 : decode cX11_lasts 80 = .ok (.iinc 4 1, 3) := by decide +kernel
theorem dX11_lasts_83 : decode cX11_lasts 83 = .ok (.iinc 5 1, 3) := by decide +kernel
theorem dX11_lasts_86 : decode cX11_lasts 86 = .ok (.goto (-48), 3) := by decide +kernel
theorem dX11_lasts_89 : decode cX11_lasts 89 = .ok (.iload 4, 2) := by decide +kernel
theorem dX11_lasts_91 : decode cX11_lasts 91 = .ok (.ireturn, 1) := by decide +kernel
theorem dX11_train_0 : decode cX11_train 0 = .ok (.aload_n 0, 1) := by decide +kernel
theorem dX11_train_1 : decode cX11_train 1 = .ok (.getfield 19, 3) := by decide +kernel
theorem dX11_train_4 : decode cX11_train 4 = .ok (.iload_n 1, 1) := by decide +kernel
theorem dX11_train_5 : decode cX11_train 5 = .ok (.invokevirtual 115, 3) := by decide +kernel
theorem dX11_train_8 : decode cX11_train 8 = .ok (.ifCond .ne 6, 3) := by decide +kernel
theorem dX11_train_11 : decode cX11_train 11 = .ok (.bipush (-2), 2) := by decide +kernel
theorem dX11_train_13 : decode cX11_train 13 = .ok (.ireturn, 1) := by decide +kernel
theorem dX11_train_14 : decode cX11_train 14 = .ok (.iload_n 2, 1) := by decide +kernel
theorem dX11_train_15 : decode cX11_train 15 = .ok (.tableswitch 72 0 2 #[25, 41, 56], 25) := by decide +kernel
theorem dX11_train_40 : decode cX11_train 40 = .ok (.aload_n 0, 1) := by decide +kernel
theorem dX11_train_41 : decode cX11_train 41 = .ok (.aload_n 0, 1) := by decide +kernel
theorem dX11_train_42 : decode cX11_train 42 = .ok (.getfield 19, 3) := by decide +kernel
theorem dX11_train_45 : decode cX11_train 45 = .ok (.getfield 119, 3) := by decide +kernel
theorem dX11_train_48 : decode cX11_train 48 = .ok (.iload_n 1, 1) := by decide +kernel
theorem dX11_train_49 : decode cX11_train 49 = .ok (.iload_n 3, 1) := by decide +kernel
theorem dX11_train_50 : decode cX11_train 50 = .ok (.bipush 15, 2) := by decide +kernel
theorem dX11_train_52 : decode cX11_train 52 = .ok (.invokevirtual 365, 3) := by decide +kernel
theorem dX11_train_55 : decode cX11_train 55 = .ok (.ireturn, 1) := by decide +kernel
theorem dX11_train_56 : decode cX11_train 56 = .ok (.aload_n 0, 1) := by decide +kernel
theorem dX11_train_57 : decode cX11_train 57 = .ok (.aload_n 0, 1) := by decide +kernel
theorem dX11_train_58 : decode cX11_train 58 = .ok (.getfield 19, 3) := by decide +kernel
theorem dX11_train_61 : decode cX11_train 61 = .ok (.getfield 123, 3) := by decide +kernel
theorem dX11_train_64 : decode cX11_train 64 = .ok (.iload_n 1, 1) := by decide +kernel
theorem dX11_train_65 : decode cX11_train 65 = .ok (.iload_n 3, 1) := by decide +kernel
theorem dX11_train_66 : decode cX11_train 66 = .ok (.iconst 1, 1) := by decide +kernel
theorem dX11_train_67 : decode cX11_train 67 = .ok (.invokevirtual 365, 3) := by decide +kernel
theorem dX11_train_70 : decode cX11_train 70 = .ok (.ireturn, 1) := by decide +kernel
theorem dX11_train_71 : decode cX11_train 71 = .ok (.aload_n 0, 1) := by decide +kernel
theorem dX11_train_72 : decode cX11_train 72 = .ok (.aload_n 0, 1) := by decide +kernel
theorem dX11_train_73 : decode cX11_train 73 = .ok (.getfield 19, 3) := by decide +kernel
theorem dX11_train_76 : decode cX11_train 76 = .ok (.getfield 126, 3) := by decide +kernel
theorem dX11_train_79 : decode cX11_train 79 = .ok (.iload_n 1, 1) := by decide +kernel
theorem dX11_train_80 : decode cX11_train 80 = .ok (.iload_n 3, 1) := by decide +kernel
theorem dX11_train_81 : decode cX11_train 81 = .ok (.bipush 50, 2) := by decide +kernel
theorem dX11_train_83 : decode cX11_train 83 = .ok (.invokevirtual 365, 3) := by decide +kernel
theorem dX11_train_86 : decode cX11_train 86 = .ok (.ireturn, 1) := by decide +kernel
theorem dX11_train_87 : decode cX11_train 87 = .ok (.bipush (-2), 2) := by decide +kernel
theorem dX11_train_89 : decode cX11_train 89 = .ok (.ireturn, 1) := by decide +kernel
theorem dX11_begin_0 : decode cX11_begin 0 = .ok (.aload_n 0, 1) := by decide +kernel
theorem dX11_begin_1 : decode cX11_begin 1 = .ok (.getfield 19, 3) := by decide +kernel
theorem dX11_begin_4 : decode cX11_begin 4 = .ok (.iload_n 1, 1) := by decide +kernel
theorem dX11_begin_5 : decode cX11_begin 5 = .ok (.invokevirtual 135, 3) := by decide +kernel
theorem dX11_begin_8 : decode cX11_begin 8 = .ok (.ifCond .ne 6, 3) := by decide +kernel
theorem dX11_begin_11 : decode cX11_begin 11 = .ok (.bipush (-2), 2) := by decide +kernel
theorem dX11_begin_13 : decode cX11_begin 13 = .ok (.ireturn, 1) := by decide +kernel
theorem dX11_begin_14 : decode cX11_begin 14 = .ok (.aload_n 0, 1) := by decide +kernel
theorem dX11_begin_15 : decode cX11_begin 15 = .ok (.aload_n 0, 1) := by decide +kernel
theorem dX11_begin_16 : decode cX11_begin 16 = .ok (.getfield 19, 3) := by decide +kernel
theorem dX11_begin_19 : decode cX11_begin 19 = .ok (.getfield 141, 3) := by decide +kernel
theorem dX11_begin_22 : decode cX11_begin 22 = .ok (.iload_n 1, 1) := by decide +kernel
theorem dX11_begin_23 : decode cX11_begin 23 = .ok (.iload_n 2, 1) := by decide +kernel
theorem dX11_begin_24 : decode cX11_begin 24 = .ok (.bipush 15, 2) := by decide +kernel
theorem dX11_begin_26 : decode cX11_begin 26 = .ok (.invokevirtual 365, 3) := by decide +kernel
theorem dX11_begin_29 : decode cX11_begin 29 = .ok (.ireturn, 1) := by decide +kernel
