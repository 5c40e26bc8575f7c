/-! decode rows: Ma -/
theorem d_Ma_max_0 : decode c_Ma_max 0 = .ok (.iload_n 0, 1) := by decide +kernel
theorem d_Ma_max_1 : decode c_Ma_max 1 = .ok (.iload_n 1, 1) := by decide +kernel
theorem d_Ma_max_2 : decode c_Ma_max 2 = .ok (.if_icmp .lt 7, 3) := by decide +kernel
theorem d_Ma_max_5 : decode c_Ma_max 5 = .ok (.iload_n 0, 1) := by decide +kernel
theorem d_Ma_max_6 : decode c_Ma_max 6 = .ok (.goto 4, 3) := by decide +kernel
theorem d_Ma_max_9 : decode c_Ma_max 9 = .ok (.iload_n 1, 1) := by decide +kernel
theorem d_Ma_max_10 : decode c_Ma_max 10 = .ok (.ireturn, 1) := by decide +kernel
theorem d_Ma_min_0 : decode c_Ma_min 0 = .ok (.iload_n 0, 1) := by decide +kernel
theorem d_Ma_min_1 : decode c_Ma_min 1 = .ok (.iload_n 1, 1) := by decide +kernel
theorem d_Ma_min_2 : decode c_Ma_min 2 = .ok (.if_icmp .gt 7, 3) := by decide +kernel
theorem d_Ma_min_5 : decode c_Ma_min 5 = .ok (.iload_n 0, 1) := by decide +kernel
theorem d_Ma_min_6 : decode c_Ma_min 6 = .ok (.goto 4, 3) := by decide +kernel
theorem d_Ma_min_9 : decode c_Ma_min 9 = .ok (.iload_n 1, 1) := by decide +kernel
theorem d_Ma_min_10 : decode c_Ma_min 10 = .ok (.ireturn, 1) := by decide +kernel
theorem d_Ma_min2_0 : decode c_Ma_min2 0 = .ok (.lload_n 0, 1) := by decide +kernel
theorem d_Ma_min2_1 : decode c_Ma_min2 1 = .ok (.lload_n 2, 1) := by decide +kernel
theorem d_Ma_min2_2 : decode c_Ma_min2 2 = .ok (.lcmp, 1) := by decide +kernel
theorem d_Ma_min2_3 : decode c_Ma_min2 3 = .ok (.ifCond .gt 7, 3) := by decide +kernel
theorem d_Ma_min2_6 : decode c_Ma_min2 6 = .ok (.lload_n 0, 1) := by decide +kernel
theorem d_Ma_min2_7 : decode c_Ma_min2 7 = .ok (.goto 4, 3) := by decide +kernel
theorem d_Ma_min2_10 : decode c_Ma_min2 10 = .ok (.lload_n 2, 1) := by decide +kernel
theorem d_Ma_min2_11 : decode c_Ma_min2 11 = .ok (.lreturn, 1) := by decide +kernel
theorem d_Ma_max2_0 : decode c_Ma_max2 0 = .ok (.lload_n 0, 1) := by decide +kernel
theorem d_Ma_max2_1 : decode c_Ma_max2 1 = .ok (.lload_n 2, 1) := by decide +kernel
theorem d_Ma_max2_2 : decode c_Ma_max2 2 = .ok (.lcmp, 1) := by decide +kernel
theorem d_Ma_max2_3 : decode c_Ma_max2 3 = .ok (.ifCond .lt 7, 3) := by decide +kernel
theorem d_Ma_max2_6 : decode c_Ma_max2 6 = .ok (.lload_n 0, 1) := by decide +kernel
theorem d_Ma_max2_7 : decode c_Ma_max2 7 = .ok (.goto 4, 3) := by decide +kernel
theorem d_Ma_max2_10 : decode c_Ma_max2 10 = .ok (.lload_n 2, 1) := by decide +kernel
theorem d_Ma_max2_11 : decode c_Ma_max2 11 = .ok (.lreturn, 1) := by decide +kernel
