theorem dX8_sameRow_0 : decode cX8_sameRow 0 = .ok (.iconst 0, 1) := by decide +kernel
theorem dX8_sameRow_1 : decode cX8_sameRow 1 = .ok (.istore 5, 2) := by decide +kernel
theorem dX8_sameRow_3 : decode cX8_sameRow 3 = .ok (.iload 5, 2) := by decide +kernel
theorem dX8_sameRow_5 : decode cX8_sameRow 5 = .ok (.iload 4, 2) := by decide +kernel
theorem dX8_sameRow_7 : decode cX8_sameRow 7 = .ok (.if_icmp .ge 26, 3) := by decide +kernel
theorem dX8_sameRow_10 : decode cX8_sameRow 10 = .ok (.aload_n 0, 1) := by decide +kernel
theorem dX8_sameRow_11 : decode cX8_sameRow 11 = .ok (.iload_n 1, 1) := by decide +kernel
theorem dX8_sameRow_12 : decode cX8_sameRow 12 = .ok (.iload 5, 2) := by decide +kernel
theorem dX8_sameRow_14 : decode cX8_sameRow 14 = .ok (.iadd, 1) := by decide +kernel
theorem dX8_sameRow_15 : decode cX8_sameRow 15 = .ok (.iaload, 1) := by decide +kernel
theorem dX8_sameRow_16 : decode cX8_sameRow 16 = .ok (.aload_n 2, 1) := by decide +kernel
theorem dX8_sameRow_17 : decode cX8_sameRow 17 = .ok (.iload_n 3, 1) := by decide +kernel
theorem dX8_sameRow_18 : decode cX8_sameRow 18 = .ok (.iload 5, 2) := by decide +kernel
theorem dX8_sameRow_20 : decode cX8_sameRow 20 = .ok (.iadd, 1) := by decide +kernel
theorem dX8_sameRow_21 : decode cX8_sameRow 21 = .ok (.iaload, 1) := by decide +kernel
theorem dX8_sameRow_22 : decode cX8_sameRow 22 = .ok (.if_icmp .eq 5, 3) := by decide +kernel
theorem dX8_sameRow_25 : decode cX8_sameRow 25 = .ok (.iconst 0, 1) := by decide +kernel
theorem dX8_sameRow_26 : decode cX8_sameRow 26 = .ok (.ireturn, 1) := by decide +kernel
theorem dX8_sameRow_27 : decode cX8_sameRow 27 = .ok (.iinc 5 1, 3) := by decide +kernel
theorem dX8_sameRow_30 : decode cX8_sameRow 30 = .ok (.goto (-27), 3) := by decide +kernel
theorem dX8_sameRow_33 : decode cX8_sameRow 33 = .ok (.iconst 1, 1) := by decide +kernel
theorem dX8_sameRow_34 : decode cX8_sameRow 34 = .ok (.ireturn, 1) := by decide +kernel
