/-! decode rows: Pr -/
theorem d_Pr_checkFromToIndex_0 : decode c_Pr_checkFromToIndex 0 = .ok (.iload_n 0, 1) := by decide +kernel
theorem d_Pr_checkFromToIndex_1 : decode c_Pr_checkFromToIndex 1 = .ok (.ifCond .lt 13, 3) := by decide +kernel
theorem d_Pr_checkFromToIndex_4 : decode c_Pr_checkFromToIndex 4 = .ok (.iload_n 0, 1) := by decide +kernel
theorem d_Pr_checkFromToIndex_5 : decode c_Pr_checkFromToIndex 5 = .ok (.iload_n 1, 1) := by decide +kernel
theorem d_Pr_checkFromToIndex_6 : decode c_Pr_checkFromToIndex 6 = .ok (.if_icmp .gt 8, 3) := by decide +kernel
theorem d_Pr_checkFromToIndex_9 : decode c_Pr_checkFromToIndex 9 = .ok (.iload_n 1, 1) := by decide +kernel
theorem d_Pr_checkFromToIndex_10 : decode c_Pr_checkFromToIndex 10 = .ok (.iload_n 2, 1) := by decide +kernel
theorem d_Pr_checkFromToIndex_11 : decode c_Pr_checkFromToIndex 11 = .ok (.if_icmp .le 11, 3) := by decide +kernel
theorem d_Pr_checkFromToIndex_14 : decode c_Pr_checkFromToIndex 14 = .ok (.aload_n 3, 1) := by decide +kernel
theorem d_Pr_checkFromToIndex_15 : decode c_Pr_checkFromToIndex 15 = .ok (.iload_n 0, 1) := by decide +kernel
theorem d_Pr_checkFromToIndex_16 : decode c_Pr_checkFromToIndex 16 = .ok (.iload_n 1, 1) := by decide +kernel
theorem d_Pr_checkFromToIndex_17 : decode c_Pr_checkFromToIndex 17 = .ok (.iload_n 2, 1) := by decide +kernel
theorem d_Pr_checkFromToIndex_18 : decode c_Pr_checkFromToIndex 18 = .ok (.invokestatic 99, 3) := by decide +kernel
theorem d_Pr_checkFromToIndex_21 : decode c_Pr_checkFromToIndex 21 = .ok (.athrow, 1) := by decide +kernel
theorem d_Pr_checkFromToIndex_22 : decode c_Pr_checkFromToIndex 22 = .ok (.iload_n 0, 1) := by decide +kernel
theorem d_Pr_checkFromToIndex_23 : decode c_Pr_checkFromToIndex 23 = .ok (.ireturn, 1) := by decide +kernel
theorem d_Pr_checkIndex_0 : decode c_Pr_checkIndex 0 = .ok (.iload_n 0, 1) := by decide +kernel
theorem d_Pr_checkIndex_1 : decode c_Pr_checkIndex 1 = .ok (.ifCond .lt 8, 3) := by decide +kernel
theorem d_Pr_checkIndex_4 : decode c_Pr_checkIndex 4 = .ok (.iload_n 0, 1) := by decide +kernel
theorem d_Pr_checkIndex_5 : decode c_Pr_checkIndex 5 = .ok (.iload_n 1, 1) := by decide +kernel
theorem d_Pr_checkIndex_6 : decode c_Pr_checkIndex 6 = .ok (.if_icmp .lt 10, 3) := by decide +kernel
theorem d_Pr_checkIndex_9 : decode c_Pr_checkIndex 9 = .ok (.aload_n 2, 1) := by decide +kernel
theorem d_Pr_checkIndex_10 : decode c_Pr_checkIndex 10 = .ok (.iload_n 0, 1) := by decide +kernel
theorem d_Pr_checkIndex_11 : decode c_Pr_checkIndex 11 = .ok (.iload_n 1, 1) := by decide +kernel
theorem d_Pr_checkIndex_12 : decode c_Pr_checkIndex 12 = .ok (.invokestatic 95, 3) := by decide +kernel
theorem d_Pr_checkIndex_15 : decode c_Pr_checkIndex 15 = .ok (.athrow, 1) := by decide +kernel
theorem d_Pr_checkIndex_16 : decode c_Pr_checkIndex 16 = .ok (.iload_n 0, 1) := by decide +kernel
theorem d_Pr_checkIndex_17 : decode c_Pr_checkIndex 17 = .ok (.ireturn, 1) := by decide +kernel
