theorem dL_law_18 : decode cL_law 18 = .ok (.iload_n 3, 1) := dq29 (Um_ch ch0 (j := 18) (b := 29) (v := 29) rfl rfl rfl)
theorem dL_law_19 : decode cL_law 19 = .ok (.aload_n 0, 1) := dq42 (Um_ch ch0 (j := 19) (b := 42) (v := 42) rfl rfl rfl)
theorem dL_law_20 : decode cL_law 20 = .ok (.arraylength, 1) := by decide +kernel
theorem dL_law_21 : decode cL_law 21 = .ok (.bipush 6, 2) := by decide +kernel
theorem dL_law_23 : decode cL_law 23 = .ok (.isub, 1) := by decide +kernel
theorem dL_law_24 : decode cL_law 24 = .ok (.if_icmp .gt 2441, 3) := by decide +kernel
theorem dL_law_27 : decode cL_law 27 = .ok (.aload_n 0, 1) := dq42 (Um_ch ch0 (j := 27) (b := 42) (v := 42) rfl rfl rfl)
theorem dL_law_28 : decode cL_law 28 = .ok (.iload_n 3, 1) := dq29 (Um_ch ch0 (j := 28) (b := 29) (v := 29) rfl rfl rfl)
theorem dL_law_29 : decode cL_law 29 = .ok (.iaload, 1) := dq46 (Um_ch ch0 (j := 29) (b := 46) (v := 46) rfl rfl rfl)
theorem dL_law_30 : decode cL_law 30 = .ok (.bipush 63, 2) := by decide +kernel
theorem dL_law_32 : decode cL_law 32 = .ok (.iand, 1) := by decide +kernel
theorem dL_law_33 : decode cL_law 33 = .ok (.tableswitch 2426 0 62 #[267, 330, 353, 366, 389, 422, 455, 488, 531, 574, 617, 650, 683, 716, 749, 782, 815, 838, 851, 874, 887, 900, 923, 956, 1009, 1042, 1085, 1118, 1141, 1184, 1217, 1240, 1263, 1276, 1319, 1362, 1405, 1448, 1501, 1544, 1597, 1640, 1673, 1696, 1719, 1742, 1765, 1798, 1841, 1874, 1907, 1940, 1973, 2016, 2059, 2092, 2145, 2178, 2201, 2224, 2247, 2290, 2363], 267) := by decide +kernel
theorem dL_law_2459 : decode cL_law 2459 = .ok (.iinc 3 6, 3) := by decide +kernel
theorem dL_law_2462 : decode cL_law 2462 = .ok (.goto (-2444), 3) := dq167 (Um_ch ch38 (j := 30) (b := 167) (v := 167) rfl rfl rfl) (Um_ch ch38 (j := 31) (b := 246) (v := 246) rfl rfl rfl) (Um_ch ch38 (j := 32) (b := 116) (v := 116) rfl rfl rfl) (by decide)
theorem dL_law_2465 : decode cL_law 2465 = .ok (.iconst 1, 1) := dq4 (Um_ch ch38 (j := 33) (b := 4) (v := 4) rfl rfl rfl)
theorem dL_law_2466 : decode cL_law 2466 = .ok (.ireturn, 1) := by decide +kernel
