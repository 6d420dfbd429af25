theorem dX1_reversed_0 : decode cX1_reversed 0 = .ok (.iconst 0, 1) := by decide +kernel
theorem dX1_reversed_1 : decode cX1_reversed 1 = .ok (.istore_n 2, 1) := by decide +kernel
theorem dX1_reversed_2 : decode cX1_reversed 2 = .ok (.iconst 0, 1) := by decide +kernel
theorem dX1_reversed_3 : decode cX1_reversed 3 = .ok (.istore_n 3, 1) := by decide +kernel
theorem dX1_reversed_4 : decode cX1_reversed 4 = .ok (.iload_n 3, 1) := by decide +kernel
theorem dX1_reversed_5 : decode cX1_reversed 5 = .ok (.iload_n 1, 1) := by decide +kernel
theorem dX1_reversed_6 : decode cX1_reversed 6 = .ok (.if_icmp .ge 19, 3) := by decide +kernel
theorem dX1_reversed_9 : decode cX1_reversed 9 = .ok (.iload_n 2, 1) := by decide +kernel
theorem dX1_reversed_10 : decode cX1_reversed 10 = .ok (.iconst 1, 1) := by decide +kernel
theorem dX1_reversed_11 : decode cX1_reversed 11 = .ok (.ishl, 1) := by decide +kernel
theorem dX1_reversed_12 : decode cX1_reversed 12 = .ok (.iload_n 0, 1) := by decide +kernel
theorem dX1_reversed_13 : decode cX1_reversed 13 = .ok (.iload_n 3, 1) := by decide +kernel
theorem dX1_reversed_14 : decode cX1_reversed 14 = .ok (.iushr, 1) := by decide +kernel
theorem dX1_reversed_15 : decode cX1_reversed 15 = .ok (.iconst 1, 1) := by decide +kernel
theorem dX1_reversed_16 : decode cX1_reversed 16 = .ok (.iand, 1) := by decide +kernel
theorem dX1_reversed_17 : decode cX1_reversed 17 = .ok (.ior, 1) := by decide +kernel
theorem dX1_reversed_18 : decode cX1_reversed 18 = .ok (.istore_n 2, 1) := by decide +kernel
theorem dX1_reversed_19 : decode cX1_reversed 19 = .ok (.iinc 3 1, 3) := by decide +kernel
theorem dX1_reversed_22 : decode cX1_reversed 22 = .ok (.goto (-18), 3) := by decide +kernel
theorem dX1_reversed_25 : decode cX1_reversed 25 = .ok (.iload_n 2, 1) := by decide +kernel
theorem dX1_reversed_26 : decode cX1_reversed 26 = .ok (.ireturn, 1) := by decide +kernel
