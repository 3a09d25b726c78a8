theorem dX11_keep_0 : decode cX11_keep 0 = .ok (.iload_n 1, 1) := by decide +kernel
theorem dX11_keep_1 : decode cX11_keep 1 = .ok (.iconst 3, 1) := by decide +kernel
theorem dX11_keep_2 : decode cX11_keep 2 = .ok (.invokestatic 148, 3) := by decide +kernel
theorem dX11_keep_5 : decode cX11_keep 5 = .ok (.ifCond .ne 6, 3) := by decide +kernel
theorem dX11_keep_8 : decode cX11_keep 8 = .ok (.bipush (-2), 2) := by decide +kernel
theorem dX11_keep_10 : decode cX11_keep 10 = .ok (.ireturn, 1) := by decide +kernel
theorem dX11_keep_11 : decode cX11_keep 11 = .ok (.aload_n 0, 1) := by decide +kernel
theorem dX11_keep_12 : decode cX11_keep 12 = .ok (.getfield 23, 3) := by decide +kernel
theorem dX11_keep_15 : decode cX11_keep 15 = .ok (.iload_n 1, 1) := by decide +kernel
theorem dX11_keep_16 : decode cX11_keep 16 = .ok (.aaload, 1) := by decide +kernel
theorem dX11_keep_17 : decode cX11_keep 17 = .ok (.ifnonnull 16, 3) := by decide +kernel
theorem dX11_keep_20 : decode cX11_keep 20 = .ok (.aload_n 0, 1) := by decide +kernel
theorem dX11_keep_21 : decode cX11_keep 21 = .ok (.getfield 23, 3) := by decide +kernel
theorem dX11_keep_24 : decode cX11_keep 24 = .ok (.iload_n 1, 1) := by decide +kernel
theorem dX11_keep_25 : decode cX11_keep 25 = .ok (.new 16, 3) := by decide +kernel
theorem dX11_keep_28 : decode cX11_keep 28 = .ok (.dup, 1) := by decide +kernel
theorem dX11_keep_29 : decode cX11_keep 29 = .ok (.invokespecial 18, 3) := by decide +kernel
theorem dX11_keep_32 : decode cX11_keep 32 = .ok (.aastore, 1) := by decide +kernel
theorem dX11_keep_33 : decode cX11_keep 33 = .ok (.aload_n 0, 1) := by decide +kernel
theorem dX11_keep_34 : decode cX11_keep 34 = .ok (.getfield 23, 3) := by decide +kernel
theorem dX11_keep_37 : decode cX11_keep 37 = .ok (.iload_n 1, 1) := by decide +kernel
theorem dX11_keep_38 : decode cX11_keep 38 = .ok (.aaload, 1) := by decide +kernel
theorem dX11_keep_39 : decode cX11_keep 39 = .ok (.aload_n 0, 1) := by decide +kernel
theorem dX11_keep_40 : decode cX11_keep 40 = .ok (.getfield 19, 3) := by decide +kernel
theorem dX11_keep_43 : decode cX11_keep 43 = .ok (.invokevirtual 98, 3) := by decide +kernel
theorem dX11_keep_46 : decode cX11_keep 46 = .ok (.iconst 0, 1) := by decide +kernel
theorem dX11_keep_47 : decode cX11_keep 47 = .ok (.ireturn, 1) := by decide +kernel
theorem dX11_on_0 : decode cX11_on 0 = .ok (.iload_n 1, 1) := by decide +kernel
theorem dX11_on_1 : decode cX11_on 1 = .ok (.iconst 3, 1) := by decide +kernel
theorem dX11_on_2 : decode cX11_on 2 = .ok (.invokestatic 148, 3) := by decide +kernel
theorem dX11_on_5 : decode cX11_on 5 = .ok (.ifCond .ne 6, 3) := by decide +kernel
theorem dX11_on_8 : decode cX11_on 8 = .ok (.bipush (-2), 2) := by decide +kernel
theorem dX11_on_10 : decode cX11_on 10 = .ok (.ireturn, 1) := by decide +kernel
theorem dX11_on_11 : decode cX11_on 11 = .ok (.aload_n 0, 1) := by decide +kernel
theorem dX11_on_12 : decode cX11_on 12 = .ok (.getfield 23, 3) := by decide +kernel
theorem dX11_on_15 : decode cX11_on 15 = .ok (.iload_n 1, 1) := by decide +kernel
theorem dX11_on_16 : decode cX11_on 16 = .ok (.aaload, 1) := by decide +kernel
theorem dX11_on_17 : decode cX11_on 17 = .ok (.ifnonnull 6, 3) := by decide +kernel
theorem dX11_on_20 : decode cX11_on 20 = .ok (.bipush (-6), 2) := by decide +kernel
theorem dX11_on_22 : decode cX11_on 22 = .ok (.ireturn, 1) := by decide +kernel
theorem dX11_on_23 : decode cX11_on 23 = .ok (.aload_n 0, 1) := by decide +kernel
theorem dX11_on_24 : decode cX11_on 24 = .ok (.getfield 19, 3) := by decide +kernel
theorem dX11_on_27 : decode cX11_on 27 = .ok (.aload_n 0, 1) := by decide +kernel
theorem dX11_on_28 : decode cX11_on 28 = .ok (.getfield 23, 3) := by decide +kernel
theorem dX11_on_31 : decode cX11_on 31 = .ok (.iload_n 1, 1) := by decide +kernel
theorem dX11_on_32 : decode cX11_on 32 = .ok (.aaload, 1) := by decide +kernel
theorem dX11_on_33 : decode cX11_on 33 = .ok (.invokevirtual 98, 3) := by decide +kernel
theorem dX11_on_36 : decode cX11_on 36 = .ok (.aload_n 0, 1) := by decide +kernel
theorem dX11_on_37 : decode cX11_on 37 = .ok (.getfield 30, 3) := by decide +kernel
theorem dX11_on_40 : decode cX11_on 40 = .ok (.iconst 1, 1) := by decide +kernel
theorem dX11_on_41 : decode cX11_on 41 = .ok (.putfield 102, 3) := by decide +kernel
theorem dX11_on_44 : decode cX11_on 44 = .ok (.iconst 0, 1) := by decide +kernel
theorem dX11_on_45 : decode cX11_on 45 = .ok (.ireturn, 1) := by decide +kernel
