/-! decode rows: Lo -/
theorem d_Lo_remainderUnsigned_0 : decode c_Lo_remainderUnsigned 0 = .ok (.lload_n 2, 1) := by decide +kernel
theorem d_Lo_remainderUnsigned_1 : decode c_Lo_remainderUnsigned 1 = .ok (.lconst 0, 1) := by decide +kernel
theorem d_Lo_remainderUnsigned_2 : decode c_Lo_remainderUnsigned 2 = .ok (.lcmp, 1) := by decide +kernel
theorem d_Lo_remainderUnsigned_3 : decode c_Lo_remainderUnsigned 3 = .ok (.ifCond .lt 37, 3) := by decide +kernel
theorem d_Lo_remainderUnsigned_6 : decode c_Lo_remainderUnsigned 6 = .ok (.lload_n 0, 1) := by decide +kernel
theorem d_Lo_remainderUnsigned_7 : decode c_Lo_remainderUnsigned 7 = .ok (.iconst 1, 1) := by decide +kernel
theorem d_Lo_remainderUnsigned_8 : decode c_Lo_remainderUnsigned 8 = .ok (.lushr, 1) := by decide +kernel
theorem d_Lo_remainderUnsigned_9 : decode c_Lo_remainderUnsigned 9 = .ok (.lload_n 2, 1) := by decide +kernel
theorem d_Lo_remainderUnsigned_10 : decode c_Lo_remainderUnsigned 10 = .ok (.ldiv, 1) := by decide +kernel
theorem d_Lo_remainderUnsigned_11 : decode c_Lo_remainderUnsigned 11 = .ok (.iconst 1, 1) := by decide +kernel
theorem d_Lo_remainderUnsigned_12 : decode c_Lo_remainderUnsigned 12 = .ok (.lshl, 1) := by decide +kernel
theorem d_Lo_remainderUnsigned_13 : decode c_Lo_remainderUnsigned 13 = .ok (.lstore 4, 2) := by decide +kernel
theorem d_Lo_remainderUnsigned_15 : decode c_Lo_remainderUnsigned 15 = .ok (.lload_n 0, 1) := by decide +kernel
theorem d_Lo_remainderUnsigned_16 : decode c_Lo_remainderUnsigned 16 = .ok (.lload 4, 2) := by decide +kernel
theorem d_Lo_remainderUnsigned_18 : decode c_Lo_remainderUnsigned 18 = .ok (.lload_n 2, 1) := by decide +kernel
theorem d_Lo_remainderUnsigned_19 : decode c_Lo_remainderUnsigned 19 = .ok (.lmul, 1) := by decide +kernel
theorem d_Lo_remainderUnsigned_20 : decode c_Lo_remainderUnsigned 20 = .ok (.lsub, 1) := by decide +kernel
theorem d_Lo_remainderUnsigned_21 : decode c_Lo_remainderUnsigned 21 = .ok (.lstore 6, 2) := by decide +kernel
theorem d_Lo_remainderUnsigned_23 : decode c_Lo_remainderUnsigned 23 = .ok (.lload 6, 2) := by decide +kernel
theorem d_Lo_remainderUnsigned_25 : decode c_Lo_remainderUnsigned 25 = .ok (.lload 6, 2) := by decide +kernel
theorem d_Lo_remainderUnsigned_27 : decode c_Lo_remainderUnsigned 27 = .ok (.lload_n 2, 1) := by decide +kernel
theorem d_Lo_remainderUnsigned_28 : decode c_Lo_remainderUnsigned 28 = .ok (.lsub, 1) := by decide +kernel
theorem d_Lo_remainderUnsigned_29 : decode c_Lo_remainderUnsigned 29 = .ok (.ldc2_w 306, 3) := by decide +kernel
theorem d_Lo_remainderUnsigned_32 : decode c_Lo_remainderUnsigned 32 = .ok (.lxor, 1) := by decide +kernel
theorem d_Lo_remainderUnsigned_33 : decode c_Lo_remainderUnsigned 33 = .ok (.bipush 63, 2) := by decide +kernel
theorem d_Lo_remainderUnsigned_35 : decode c_Lo_remainderUnsigned 35 = .ok (.lshr, 1) := by decide +kernel
theorem d_Lo_remainderUnsigned_36 : decode c_Lo_remainderUnsigned 36 = .ok (.lload_n 2, 1) := by decide +kernel
theorem d_Lo_remainderUnsigned_37 : decode c_Lo_remainderUnsigned 37 = .ok (.land, 1) := by decide +kernel
theorem d_Lo_remainderUnsigned_38 : decode c_Lo_remainderUnsigned 38 = .ok (.lsub, 1) := by decide +kernel
theorem d_Lo_remainderUnsigned_39 : decode c_Lo_remainderUnsigned 39 = .ok (.lreturn, 1) := by decide +kernel
theorem d_Lo_remainderUnsigned_40 : decode c_Lo_remainderUnsigned 40 = .ok (.lload_n 0, 1) := by decide +kernel
theorem d_Lo_remainderUnsigned_41 : decode c_Lo_remainderUnsigned 41 = .ok (.lload_n 0, 1) := by decide +kernel
theorem d_Lo_remainderUnsigned_42 : decode c_Lo_remainderUnsigned 42 = .ok (.lload_n 0, 1) := by decide +kernel
theorem d_Lo_remainderUnsigned_43 : decode c_Lo_remainderUnsigned 43 = .ok (.lload_n 2, 1) := by decide +kernel
theorem d_Lo_remainderUnsigned_44 : decode c_Lo_remainderUnsigned 44 = .ok (.lsub, 1) := by decide +kernel
theorem d_Lo_remainderUnsigned_45 : decode c_Lo_remainderUnsigned 45 = .ok (.ldc2_w 306, 3) := by decide +kernel
theorem d_Lo_remainderUnsigned_48 : decode c_Lo_remainderUnsigned 48 = .ok (.lxor, 1) := by decide +kernel
theorem d_Lo_remainderUnsigned_49 : decode c_Lo_remainderUnsigned 49 = .ok (.land, 1) := by decide +kernel
theorem d_Lo_remainderUnsigned_50 : decode c_Lo_remainderUnsigned 50 = .ok (.bipush 63, 2) := by decide +kernel
theorem d_Lo_remainderUnsigned_52 : decode c_Lo_remainderUnsigned 52 = .ok (.lshr, 1) := by decide +kernel
theorem d_Lo_remainderUnsigned_53 : decode c_Lo_remainderUnsigned 53 = .ok (.lload_n 2, 1) := by decide +kernel
theorem d_Lo_remainderUnsigned_54 : decode c_Lo_remainderUnsigned 54 = .ok (.land, 1) := by decide +kernel
theorem d_Lo_remainderUnsigned_55 : decode c_Lo_remainderUnsigned 55 = .ok (.lsub, 1) := by decide +kernel
theorem d_Lo_remainderUnsigned_56 : decode c_Lo_remainderUnsigned 56 = .ok (.lreturn, 1) := by decide +kernel
theorem d_Lo_divideUnsigned_0 : decode c_Lo_divideUnsigned 0 = .ok (.lload_n 2, 1) := by decide +kernel
theorem d_Lo_divideUnsigned_1 : decode c_Lo_divideUnsigned 1 = .ok (.lconst 0, 1) := by decide +kernel
theorem d_Lo_divideUnsigned_2 : decode c_Lo_divideUnsigned 2 = .ok (.lcmp, 1) := by decide +kernel
theorem d_Lo_divideUnsigned_3 : decode c_Lo_divideUnsigned 3 = .ok (.ifCond .lt 38, 3) := by decide +kernel
theorem d_Lo_divideUnsigned_6 : decode c_Lo_divideUnsigned 6 = .ok (.lload_n 0, 1) := by decide +kernel
theorem d_Lo_divideUnsigned_7 : decode c_Lo_divideUnsigned 7 = .ok (.iconst 1, 1) := by decide +kernel
theorem d_Lo_divideUnsigned_8 : decode c_Lo_divideUnsigned 8 = .ok (.lushr, 1) := by decide +kernel
theorem d_Lo_divideUnsigned_9 : decode c_Lo_divideUnsigned 9 = .ok (.lload_n 2, 1) := by decide +kernel
theorem d_Lo_divideUnsigned_10 : decode c_Lo_divideUnsigned 10 = .ok (.ldiv, 1) := by decide +kernel
theorem d_Lo_divideUnsigned_11 : decode c_Lo_divideUnsigned 11 = .ok (.iconst 1, 1) := by decide +kernel
theorem d_Lo_divideUnsigned_12 : decode c_Lo_divideUnsigned 12 = .ok (.lshl, 1) := by decide +kernel
theorem d_Lo_divideUnsigned_13 : decode c_Lo_divideUnsigned 13 = .ok (.lstore 4, 2) := by decide +kernel
theorem d_Lo_divideUnsigned_15 : decode c_Lo_divideUnsigned 15 = .ok (.lload_n 0, 1) := by decide +kernel
theorem d_Lo_divideUnsigned_16 : decode c_Lo_divideUnsigned 16 = .ok (.lload 4, 2) := by decide +kernel
theorem d_Lo_divideUnsigned_18 : decode c_Lo_divideUnsigned 18 = .ok (.lload_n 2, 1) := by decide +kernel
theorem d_Lo_divideUnsigned_19 : decode c_Lo_divideUnsigned 19 = .ok (.lmul, 1) := by decide +kernel
theorem d_Lo_divideUnsigned_20 : decode c_Lo_divideUnsigned 20 = .ok (.lsub, 1) := by decide +kernel
theorem d_Lo_divideUnsigned_21 : decode c_Lo_divideUnsigned 21 = .ok (.lstore 6, 2) := by decide +kernel
theorem d_Lo_divideUnsigned_23 : decode c_Lo_divideUnsigned 23 = .ok (.lload 4, 2) := by decide +kernel
theorem d_Lo_divideUnsigned_25 : decode c_Lo_divideUnsigned 25 = .ok (.lload 6, 2) := by decide +kernel
theorem d_Lo_divideUnsigned_27 : decode c_Lo_divideUnsigned 27 = .ok (.lload 6, 2) := by decide +kernel
theorem d_Lo_divideUnsigned_29 : decode c_Lo_divideUnsigned 29 = .ok (.lload_n 2, 1) := by decide +kernel
theorem d_Lo_divideUnsigned_30 : decode c_Lo_divideUnsigned 30 = .ok (.lsub, 1) := by decide +kernel
theorem d_Lo_divideUnsigned_31 : decode c_Lo_divideUnsigned 31 = .ok (.ldc2_w 306, 3) := by decide +kernel
theorem d_Lo_divideUnsigned_34 : decode c_Lo_divideUnsigned 34 = .ok (.lxor, 1) := by decide +kernel
theorem d_Lo_divideUnsigned_35 : decode c_Lo_divideUnsigned 35 = .ok (.lor, 1) := by decide +kernel
theorem d_Lo_divideUnsigned_36 : decode c_Lo_divideUnsigned 36 = .ok (.bipush 63, 2) := by decide +kernel
theorem d_Lo_divideUnsigned_38 : decode c_Lo_divideUnsigned 38 = .ok (.lushr, 1) := by decide +kernel
theorem d_Lo_divideUnsigned_39 : decode c_Lo_divideUnsigned 39 = .ok (.ladd, 1) := by decide +kernel
theorem d_Lo_divideUnsigned_40 : decode c_Lo_divideUnsigned 40 = .ok (.lreturn, 1) := by decide +kernel
theorem d_Lo_divideUnsigned_41 : decode c_Lo_divideUnsigned 41 = .ok (.lload_n 0, 1) := by decide +kernel
theorem d_Lo_divideUnsigned_42 : decode c_Lo_divideUnsigned 42 = .ok (.lload_n 0, 1) := by decide +kernel
theorem d_Lo_divideUnsigned_43 : decode c_Lo_divideUnsigned 43 = .ok (.lload_n 2, 1) := by decide +kernel
theorem d_Lo_divideUnsigned_44 : decode c_Lo_divideUnsigned 44 = .ok (.lsub, 1) := by decide +kernel
theorem d_Lo_divideUnsigned_45 : decode c_Lo_divideUnsigned 45 = .ok (.ldc2_w 306, 3) := by decide +kernel
theorem d_Lo_divideUnsigned_48 : decode c_Lo_divideUnsigned 48 = .ok (.lxor, 1) := by decide +kernel
theorem d_Lo_divideUnsigned_49 : decode c_Lo_divideUnsigned 49 = .ok (.land, 1) := by decide +kernel
theorem d_Lo_divideUnsigned_50 : decode c_Lo_divideUnsigned 50 = .ok (.bipush 63, 2) := by decide +kernel
theorem d_Lo_divideUnsigned_52 : decode c_Lo_divideUnsigned 52 = .ok (.lushr, 1) := by decide +kernel
theorem d_Lo_divideUnsigned_53 : decode c_Lo_divideUnsigned 53 = .ok (.lreturn, 1) := by decide +kernel
