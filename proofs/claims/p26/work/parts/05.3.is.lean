theorem dL_is_0 : decode cL_is 0 = .ok (.aload_n 0, 1) := by decide +kernel
theorem dL_is_1 : decode cL_is 1 = .ok (.iload_n 1, 1) := by decide +kernel
theorem dL_is_2 : decode cL_is 2 = .ok (.iload_n 2, 1) := by decide +kernel
theorem dL_is_3 : decode cL_is 3 = .ok (.invokevirtual 48, 3) := by decide +kernel
theorem dL_is_6 : decode cL_is 6 = .ok (.iload_n 3, 1) := by decide +kernel
theorem dL_is_7 : decode cL_is 7 = .ok (.if_icmp .ne 62, 3) := by decide +kernel
theorem dL_is_10 : decode cL_is 10 = .ok (.aload_n 0, 1) := by decide +kernel
theorem dL_is_11 : decode cL_is 11 = .ok (.iload_n 1, 1) := by decide +kernel
theorem dL_is_12 : decode cL_is 12 = .ok (.iload_n 2, 1) := by decide +kernel
theorem dL_is_13 : decode cL_is 13 = .ok (.invokevirtual 51, 3) := by decide +kernel
theorem dL_is_16 : decode cL_is 16 = .ok (.iload 4, 2) := by decide +kernel
theorem dL_is_18 : decode cL_is 18 = .ok (.if_icmp .ne 51, 3) := by decide +kernel
theorem dL_is_21 : decode cL_is 21 = .ok (.aload_n 0, 1) := by decide +kernel
theorem dL_is_22 : decode cL_is 22 = .ok (.iload_n 1, 1) := by decide +kernel
theorem dL_is_23 : decode cL_is 23 = .ok (.iload_n 2, 1) := by decide +kernel
theorem dL_is_24 : decode cL_is 24 = .ok (.invokevirtual 54, 3) := by decide +kernel
theorem dL_is_27 : decode cL_is 27 = .ok (.iload 5, 2) := by decide +kernel
theorem dL_is_29 : decode cL_is 29 = .ok (.if_icmp .ne 40, 3) := by decide +kernel
theorem dL_is_32 : decode cL_is 32 = .ok (.aload_n 0, 1) := by decide +kernel
theorem dL_is_33 : decode cL_is 33 = .ok (.iload_n 1, 1) := by decide +kernel
theorem dL_is_34 : decode cL_is 34 = .ok (.iload_n 2, 1) := by decide +kernel
theorem dL_is_35 : decode cL_is 35 = .ok (.invokevirtual 57, 3) := by decide +kernel
theorem dL_is_38 : decode cL_is 38 = .ok (.iload 6, 2) := by decide +kernel
theorem dL_is_40 : decode cL_is 40 = .ok (.if_icmp .ne 29, 3) := by decide +kernel
theorem dL_is_43 : decode cL_is 43 = .ok (.aload_n 0, 1) := by decide +kernel
theorem dL_is_44 : decode cL_is 44 = .ok (.iload_n 1, 1) := by decide +kernel
theorem dL_is_45 : decode cL_is 45 = .ok (.iload_n 2, 1) := by decide +kernel
theorem dL_is_46 : decode cL_is 46 = .ok (.invokevirtual 60, 3) := by decide +kernel
theorem dL_is_49 : decode cL_is 49 = .ok (.iload 7, 2) := by decide +kernel
theorem dL_is_51 : decode cL_is 51 = .ok (.if_icmp .ne 18, 3) := by decide +kernel
theorem dL_is_54 : decode cL_is 54 = .ok (.aload_n 0, 1) := by decide +kernel
theorem dL_is_55 : decode cL_is 55 = .ok (.iload_n 1, 1) := by decide +kernel
theorem dL_is_56 : decode cL_is 56 = .ok (.iload_n 2, 1) := by decide +kernel
theorem dL_is_57 : decode cL_is 57 = .ok (.invokevirtual 63, 3) := by decide +kernel
theorem dL_is_60 : decode cL_is 60 = .ok (.iload 8, 2) := by decide +kernel
theorem dL_is_62 : decode cL_is 62 = .ok (.if_icmp .ne 7, 3) := by decide +kernel
theorem dL_is_65 : decode cL_is 65 = .ok (.iconst 1, 1) := by decide +kernel
theorem dL_is_66 : decode cL_is 66 = .ok (.goto 4, 3) := by decide +kernel
theorem dL_is_69 : decode cL_is 69 = .ok (.iconst 0, 1) := by decide +kernel
theorem dL_is_70 : decode cL_is 70 = .ok (.ireturn, 1) := by decide +kernel
