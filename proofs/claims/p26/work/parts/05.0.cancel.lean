theorem dL_cancel_0 : decode cL_cancel 0 = .ok (.aload_n 0, 1) := by decide +kernel
theorem dL_cancel_1 : decode cL_cancel 1 = .ok (.iload_n 1, 1) := by decide +kernel
theorem dL_cancel_2 : decode cL_cancel 2 = .ok (.invokevirtual 7, 3) := by decide +kernel
theorem dL_cancel_5 : decode cL_cancel 5 = .ok (.iconst 0, 1) := by decide +kernel
theorem dL_cancel_6 : decode cL_cancel 6 = .ok (.ireturn, 1) := by decide +kernel
theorem dL_cancel_7 : decode cL_cancel 7 = .ok (.astore_n 2, 1) := by decide +kernel
theorem dL_cancel_8 : decode cL_cancel 8 = .ok (.bipush (-91), 2) := by decide +kernel
theorem dL_cancel_10 : decode cL_cancel 10 = .ok (.ireturn, 1) := by decide +kernel
theorem dL_cancel_11 : decode cL_cancel 11 = .ok (.astore_n 2, 1) := by decide +kernel
theorem dL_cancel_12 : decode cL_cancel 12 = .ok (.bipush (-93), 2) := by decide +kernel
theorem dL_cancel_14 : decode cL_cancel 14 = .ok (.ireturn, 1) := by decide +kernel
