theorem dX11_family_0 : decode cX11_family 0 = .ok (.aload_n 0, 1) := by decide +kernel
theorem dX11_family_1 : decode cX11_family 1 = .ok (.getfield 19, 3) := by decide +kernel
theorem dX11_family_4 : decode cX11_family 4 = .ok (.iload_n 1, 1) := by decide +kernel
theorem dX11_family_5 : decode cX11_family 5 = .ok (.invokevirtual 322, 3) := by decide +kernel
theorem dX11_family_8 : decode cX11_family 8 = .ok (.ifCond .eq 11, 3) := by decide +kernel
theorem dX11_family_11 : decode cX11_family 11 = .ok (.aload_n 0, 1) := by decide +kernel
theorem dX11_family_12 : decode cX11_family 12 = .ok (.iload_n 1, 1) := by decide +kernel
theorem dX11_family_13 : decode cX11_family 13 = .ok (.invokevirtual 316, 3) := by decide +kernel
theorem dX11_family_16 : decode cX11_family 16 = .ok (.goto 5, 3) := by decide +kernel
theorem dX11_family_19 : decode cX11_family 19 = .ok (.bipush (-2), 2) := by decide +kernel
theorem dX11_family_21 : decode cX11_family 21 = .ok (.ireturn, 1) := by decide +kernel
theorem dX11_together_0 : decode cX11_together 0 = .ok (.aload_n 0, 1) := by decide +kernel
theorem dX11_together_1 : decode cX11_together 1 = .ok (.getfield 19, 3) := by decide +kernel
theorem dX11_together_4 : decode cX11_together 4 = .ok (.iload_n 1, 1) := by decide +kernel
theorem dX11_together_5 : decode cX11_together 5 = .ok (.invokevirtual 322, 3) := by decide +kernel
theorem dX11_together_8 : decode cX11_together 8 = .ok (.ifCond .eq 16, 3) := by decide +kernel
theorem dX11_together_11 : decode cX11_together 11 = .ok (.aload_n 0, 1) := by decide +kernel
theorem dX11_together_12 : decode cX11_together 12 = .ok (.iload_n 1, 1) := by decide +kernel
theorem dX11_together_13 : decode cX11_together 13 = .ok (.aload_n 0, 1) := by decide +kernel
theorem dX11_together_14 : decode cX11_together 14 = .ok (.iload_n 1, 1) := by decide +kernel
theorem dX11_together_15 : decode cX11_together 15 = .ok (.invokevirtual 316, 3) := by decide +kernel
theorem dX11_together_18 : decode cX11_together 18 = .ok (.invokevirtual 319, 3) := by decide +kernel
theorem dX11_together_21 : decode cX11_together 21 = .ok (.goto 5, 3) := by decide +kernel
theorem dX11_together_24 : decode cX11_together 24 = .ok (.bipush (-2), 2) := by decide +kernel
theorem dX11_together_26 : decode cX11_together 26 = .ok (.ireturn, 1) := by decide +kernel
theorem dX11_fits_0 : decode cX11_fits 0 = .ok (.aload_n 0, 1) := by decide +kernel
theorem dX11_fits_1 : decode cX11_fits 1 = .ok (.iload_n 1, 1) := by decide +kernel
theorem dX11_fits_2 : decode cX11_fits 2 = .ok (.iload_n 2, 1) := by decide +kernel
theorem dX11_fits_3 : decode cX11_fits 3 = .ok (.invokevirtual 325, 3) := by decide +kernel
theorem dX11_fits_6 : decode cX11_fits 6 = .ok (.istore_n 3, 1) := by decide +kernel
theorem dX11_fits_7 : decode cX11_fits 7 = .ok (.iload_n 3, 1) := by decide +kernel
theorem dX11_fits_8 : decode cX11_fits 8 = .ok (.ifCond .eq 5, 3) := by decide +kernel
theorem dX11_fits_11 : decode cX11_fits 11 = .ok (.iload_n 3, 1) := by decide +kernel
theorem dX11_fits_12 : decode cX11_fits 12 = .ok (.ireturn, 1) := by decide +kernel
theorem dX11_fits_13 : decode cX11_fits 13 = .ok (.aload_n 0, 1) := by decide +kernel
theorem dX11_fits_14 : decode cX11_fits 14 = .ok (.getfield 37, 3) := by decide +kernel
theorem dX11_fits_17 : decode cX11_fits 17 = .ok (.aload_n 0, 1) := by decide +kernel
theorem dX11_fits_18 : decode cX11_fits 18 = .ok (.getfield 19, 3) := by decide +kernel
theorem dX11_fits_21 : decode cX11_fits 21 = .ok (.iload_n 2, 1) := by decide +kernel
theorem dX11_fits_22 : decode cX11_fits 22 = .ok (.invokevirtual 328, 3) := by decide +kernel
theorem dX11_fits_25 : decode cX11_fits 25 = .ok (.iconst 0, 1) := by decide +kernel
theorem dX11_fits_26 : decode cX11_fits 26 = .ok (.istore 4, 2) := by decide +kernel
theorem dX11_fits_28 : decode cX11_fits 28 = .ok (.iconst 0, 1) := by decide +kernel
theorem dX11_fits_29 : decode cX11_fits 29 = .ok (.istore 5, 2) := by decide +kernel
theorem dX11_fits_31 : decode cX11_fits 31 = .ok (.iload 5, 2) := by decide +kernel
theorem dX11_fits_33 : decode cX11_fits 33 = .ok (.bipush 32, 2) := by decide +kernel
theorem dX11_fits_35 : decode cX11_fits 35 = .ok (.if_icmp .ge 46, 3) := by decide +kernel
theorem dX11_fits_38 : decode cX11_fits 38 = .ok (.iconst 0, 1) := by decide +kernel
theorem dX11_fits_39 : decode cX11_fits 39 = .ok (.istore 6, 2) := by decide +kernel
theorem dX11_fits_41 : decode cX11_fits 41 = .ok (.iload 6, 2) := by decide +kernel
theorem dX11_fits_43 : decode cX11_fits 43 = .ok (.bipush 32, 2) := by decide +kernel
theorem dX11_fits_45 : decode cX11_fits 45 = .ok (.if_icmp .ge 30, 3) := by decide +kernel
theorem dX11_fits_48 : decode cX11_fits 48 = .ok (.aload_n 0, 1) := by decide +kernel
theorem dX11_fits_49 : decode cX11_fits 49 = .ok (.getfield 72, 3) := by decide +kernel
theorem dX11_fits_52 : decode cX11_fits 52 = .ok (.aload_n 0, 1) := by decide +kernel
theorem dX11_fits_53 : decode cX11_fits 53 = .ok (.getfield 37, 3) := by decide +kernel
theorem dX11_fits_56 : decode cX11_fits 56 = .ok (.iload 5, 2) := by decide +kernel
theorem dX11_fits_58 : decode cX11_fits 58 = .ok (.iload 6, 2) := by decide +kernel
theorem dX11_fits_60 : decode cX11_fits 60 = .ok (.invokevirtual 332, 3) := by decide +kernel
theorem dX11_fits_63 : decode cX11_fits 63 = .ok (.ifCond .eq 6, 3) := by decide +kernel
theorem dX11_fits_66 : decode cX11_fits 66 = .ok (.iinc 4 1, 3) := by decide +kernel
theorem dX11_fits_69 : decode cX11_fits 69 = .ok (.iinc 6 1, 3) := by decide +kernel
theorem dX11_fits_72 : decode cX11_fits 72 = .ok (.goto (-31), 3) := by decide +kernel
theorem dX11_fits_75 : decode cX11_fits 75 = .ok (.iinc 5 1, 3) := by decide +kernel
theorem dX11_fits_78 : decode cX11_fits 78 = .ok (.goto (-47), 3) := by decide +kernel
theorem dX11_fits_81 : decode cX11_fits 81 = .ok (.iload 4, 2) := by decide +kernel
theorem dX11_fits_83 : decode cX11_fits 83 = .ok (.ireturn, 1) := by decide +kernel
