theorem dL_law_27 : decode cL_law 27 = .ok (.aload_n 0, 1) := by decide +kernel
theorem dL_law_28 : decode cL_law 28 = .ok (.iload_n 3, 1) := by decide +kernel
theorem dL_law_29 : decode cL_law 29 = .ok (.iaload, 1) := by decide +kernel
theorem dL_law_30 : decode cL_law 30 = .ok (.bipush 63, 2) := by decide +kernel
theorem dL_law_32 : decode cL_law 32 = .ok (.iand, 1) := by decide +kernel
theorem dL_law_33 : decode cL_law 33 = .ok (.tableswitch 2430 0 62 #[267, 330, 353, 366, 389, 422, 455, 488, 531, 574, 617, 650, 683, 716, 749, 782, 815, 838, 851, 874, 887, 900, 923, 956, 1009, 1042, 1085, 1118, 1141, 1184, 1217, 1240, 1263, 1276, 1320, 1364, 1408, 1451, 1504, 1547, 1600, 1643, 1676, 1699, 1722, 1745, 1768, 1801, 1845, 1878, 1911, 1944, 1977, 2020, 2063, 2096, 2149, 2182, 2205, 2228, 2251, 2294, 2367], 267) := by decide +kernel
