/-! decode rows: Fo -/
theorem d_Fo_init_0 : decode c_Fo_init 0 = .ok (.aload_n 0, 1) := by decide +kernel
theorem d_Fo_init_1 : decode c_Fo_init 1 = .ok (.invokespecial 3, 3) := by decide +kernel
theorem d_Fo_init_4 : decode c_Fo_init 4 = .ok (.aload_n 0, 1) := by decide +kernel
theorem d_Fo_init_5 : decode c_Fo_init 5 = .ok (.sipush 400, 3) := by decide +kernel
theorem d_Fo_init_8 : decode c_Fo_init 8 = .ok (.newarray .byte, 2) := by decide +kernel
theorem d_Fo_init_10 : decode c_Fo_init 10 = .ok (.putfield 9, 3) := by decide +kernel
theorem d_Fo_init_13 : decode c_Fo_init 13 = .ok (.aload_n 0, 1) := by decide +kernel
theorem d_Fo_init_14 : decode c_Fo_init 14 = .ok (.iconst 0, 1) := by decide +kernel
theorem d_Fo_init_15 : decode c_Fo_init 15 = .ok (.putfield 15, 3) := by decide +kernel
theorem d_Fo_init_18 : decode c_Fo_init 18 = .ok (.return_, 1) := by decide +kernel
theorem d_Fo_octetsBeforeZero_0 : decode c_Fo_octetsBeforeZero 0 = .ok (.iconst 0, 1) := by decide +kernel
theorem d_Fo_octetsBeforeZero_1 : decode c_Fo_octetsBeforeZero 1 = .ok (.istore_n 2, 1) := by decide +kernel
theorem d_Fo_octetsBeforeZero_2 : decode c_Fo_octetsBeforeZero 2 = .ok (.iload_n 2, 1) := by decide +kernel
theorem d_Fo_octetsBeforeZero_3 : decode c_Fo_octetsBeforeZero 3 = .ok (.bipush 8, 2) := by decide +kernel
theorem d_Fo_octetsBeforeZero_5 : decode c_Fo_octetsBeforeZero 5 = .ok (.if_icmp .ge 19, 3) := by decide +kernel
theorem d_Fo_octetsBeforeZero_8 : decode c_Fo_octetsBeforeZero 8 = .ok (.lload_n 0, 1) := by decide +kernel
theorem d_Fo_octetsBeforeZero_9 : decode c_Fo_octetsBeforeZero 9 = .ok (.iload_n 2, 1) := by decide +kernel
theorem d_Fo_octetsBeforeZero_10 : decode c_Fo_octetsBeforeZero 10 = .ok (.invokestatic 19, 3) := by decide +kernel
theorem d_Fo_octetsBeforeZero_13 : decode c_Fo_octetsBeforeZero 13 = .ok (.ifCond .ne 5, 3) := by decide +kernel
theorem d_Fo_octetsBeforeZero_16 : decode c_Fo_octetsBeforeZero 16 = .ok (.iload_n 2, 1) := by decide +kernel
theorem d_Fo_octetsBeforeZero_17 : decode c_Fo_octetsBeforeZero 17 = .ok (.ireturn, 1) := by decide +kernel
theorem d_Fo_octetsBeforeZero_18 : decode c_Fo_octetsBeforeZero 18 = .ok (.iinc 2 1, 3) := by decide +kernel
theorem d_Fo_octetsBeforeZero_21 : decode c_Fo_octetsBeforeZero 21 = .ok (.goto (-19), 3) := by decide +kernel
theorem d_Fo_octetsBeforeZero_24 : decode c_Fo_octetsBeforeZero 24 = .ok (.bipush 8, 2) := by decide +kernel
theorem d_Fo_octetsBeforeZero_26 : decode c_Fo_octetsBeforeZero 26 = .ok (.ireturn, 1) := by decide +kernel
theorem d_Fo_octet_0 : decode c_Fo_octet 0 = .ok (.lload_n 0, 1) := by decide +kernel
theorem d_Fo_octet_1 : decode c_Fo_octet 1 = .ok (.bipush 56, 2) := by decide +kernel
theorem d_Fo_octet_3 : decode c_Fo_octet 3 = .ok (.bipush 8, 2) := by decide +kernel
theorem d_Fo_octet_5 : decode c_Fo_octet 5 = .ok (.iload_n 2, 1) := by decide +kernel
theorem d_Fo_octet_6 : decode c_Fo_octet 6 = .ok (.imul, 1) := by decide +kernel
theorem d_Fo_octet_7 : decode c_Fo_octet 7 = .ok (.isub, 1) := by decide +kernel
theorem d_Fo_octet_8 : decode c_Fo_octet 8 = .ok (.lushr, 1) := by decide +kernel
theorem d_Fo_octet_9 : decode c_Fo_octet 9 = .ok (.l2i, 1) := by decide +kernel
theorem d_Fo_octet_10 : decode c_Fo_octet 10 = .ok (.sipush 255, 3) := by decide +kernel
theorem d_Fo_octet_13 : decode c_Fo_octet 13 = .ok (.iand, 1) := by decide +kernel
theorem d_Fo_octet_14 : decode c_Fo_octet 14 = .ok (.ireturn, 1) := by decide +kernel
theorem d_Fo_isForeign_0 : decode c_Fo_isForeign 0 = .ok (.iload_n 0, 1) := by decide +kernel
theorem d_Fo_isForeign_1 : decode c_Fo_isForeign 1 = .ok (.bipush 32, 2) := by decide +kernel
theorem d_Fo_isForeign_3 : decode c_Fo_isForeign 3 = .ok (.if_icmp .lt 9, 3) := by decide +kernel
theorem d_Fo_isForeign_6 : decode c_Fo_isForeign 6 = .ok (.iload_n 0, 1) := by decide +kernel
theorem d_Fo_isForeign_7 : decode c_Fo_isForeign 7 = .ok (.bipush 126, 2) := by decide +kernel
theorem d_Fo_isForeign_9 : decode c_Fo_isForeign 9 = .ok (.if_icmp .le 7, 3) := by decide +kernel
theorem d_Fo_isForeign_12 : decode c_Fo_isForeign 12 = .ok (.iconst 1, 1) := by decide +kernel
theorem d_Fo_isForeign_13 : decode c_Fo_isForeign 13 = .ok (.goto 4, 3) := by decide +kernel
theorem d_Fo_isForeign_16 : decode c_Fo_isForeign 16 = .ok (.iconst 0, 1) := by decide +kernel
theorem d_Fo_isForeign_17 : decode c_Fo_isForeign 17 = .ok (.ireturn, 1) := by decide +kernel
theorem d_Fo_add_0 : decode c_Fo_add 0 = .ok (.iconst 0, 1) := by decide +kernel
theorem d_Fo_add_1 : decode c_Fo_add 1 = .ok (.istore 4, 2) := by decide +kernel
theorem d_Fo_add_3 : decode c_Fo_add 3 = .ok (.iload 4, 2) := by decide +kernel
theorem d_Fo_add_5 : decode c_Fo_add 5 = .ok (.iload_n 3, 1) := by decide +kernel
theorem d_Fo_add_6 : decode c_Fo_add 6 = .ok (.if_icmp .ge 47, 3) := by decide +kernel
theorem d_Fo_add_9 : decode c_Fo_add 9 = .ok (.aload_n 0, 1) := by decide +kernel
theorem d_Fo_add_10 : decode c_Fo_add 10 = .ok (.getfield 15, 3) := by decide +kernel
theorem d_Fo_add_13 : decode c_Fo_add 13 = .ok (.aload_n 0, 1) := by decide +kernel
theorem d_Fo_add_14 : decode c_Fo_add 14 = .ok (.getfield 9, 3) := by decide +kernel
theorem d_Fo_add_17 : decode c_Fo_add 17 = .ok (.arraylength, 1) := by decide +kernel
theorem d_Fo_add_18 : decode c_Fo_add 18 = .ok (.if_icmp .ge 35, 3) := by decide +kernel
theorem d_Fo_add_21 : decode c_Fo_add 21 = .ok (.aload_n 0, 1) := by decide +kernel
theorem d_Fo_add_22 : decode c_Fo_add 22 = .ok (.getfield 9, 3) := by decide +kernel
theorem d_Fo_add_25 : decode c_Fo_add 25 = .ok (.aload_n 0, 1) := by decide +kernel
theorem d_Fo_add_26 : decode c_Fo_add 26 = .ok (.getfield 15, 3) := by decide +kernel
theorem d_Fo_add_29 : decode c_Fo_add 29 = .ok (.lload_n 1, 1) := by decide +kernel
theorem d_Fo_add_30 : decode c_Fo_add 30 = .ok (.iload 4, 2) := by decide +kernel
theorem d_Fo_add_32 : decode c_Fo_add 32 = .ok (.invokestatic 19, 3) := by decide +kernel
theorem d_Fo_add_35 : decode c_Fo_add 35 = .ok (.i2b, 1) := by decide +kernel
theorem d_Fo_add_36 : decode c_Fo_add 36 = .ok (.bastore, 1) := by decide +kernel
theorem d_Fo_add_37 : decode c_Fo_add 37 = .ok (.aload_n 0, 1) := by decide +kernel
theorem d_Fo_add_38 : decode c_Fo_add 38 = .ok (.dup, 1) := by decide +kernel
theorem d_Fo_add_39 : decode c_Fo_add 39 = .ok (.getfield 15, 3) := by decide +kernel
theorem d_Fo_add_42 : decode c_Fo_add 42 = .ok (.iconst 1, 1) := by decide +kernel
theorem d_Fo_add_43 : decode c_Fo_add 43 = .ok (.iadd, 1) := by decide +kernel
theorem d_Fo_add_44 : decode c_Fo_add 44 = .ok (.putfield 15, 3) := by decide +kernel
theorem d_Fo_add_47 : decode c_Fo_add 47 = .ok (.iinc 4 1, 3) := by decide +kernel
theorem d_Fo_add_50 : decode c_Fo_add 50 = .ok (.goto (-47), 3) := by decide +kernel
theorem d_Fo_add_53 : decode c_Fo_add 53 = .ok (.return_, 1) := by decide +kernel
theorem d_Fo_letterAt_0 : decode c_Fo_letterAt 0 = .ok (.iload_n 1, 1) := by decide +kernel
theorem d_Fo_letterAt_1 : decode c_Fo_letterAt 1 = .ok (.ifCond .lt 24, 3) := by decide +kernel
theorem d_Fo_letterAt_4 : decode c_Fo_letterAt 4 = .ok (.iload_n 1, 1) := by decide +kernel
theorem d_Fo_letterAt_5 : decode c_Fo_letterAt 5 = .ok (.aload_n 0, 1) := by decide +kernel
theorem d_Fo_letterAt_6 : decode c_Fo_letterAt 6 = .ok (.getfield 15, 3) := by decide +kernel
theorem d_Fo_letterAt_9 : decode c_Fo_letterAt 9 = .ok (.if_icmp .ge 16, 3) := by decide +kernel
theorem d_Fo_letterAt_12 : decode c_Fo_letterAt 12 = .ok (.aload_n 0, 1) := by decide +kernel
theorem d_Fo_letterAt_13 : decode c_Fo_letterAt 13 = .ok (.getfield 9, 3) := by decide +kernel
theorem d_Fo_letterAt_16 : decode c_Fo_letterAt 16 = .ok (.iload_n 1, 1) := by decide +kernel
theorem d_Fo_letterAt_17 : decode c_Fo_letterAt 17 = .ok (.baload, 1) := by decide +kernel
theorem d_Fo_letterAt_18 : decode c_Fo_letterAt 18 = .ok (.sipush 255, 3) := by decide +kernel
theorem d_Fo_letterAt_21 : decode c_Fo_letterAt 21 = .ok (.iand, 1) := by decide +kernel
theorem d_Fo_letterAt_22 : decode c_Fo_letterAt 22 = .ok (.goto 4, 3) := by decide +kernel
theorem d_Fo_letterAt_25 : decode c_Fo_letterAt 25 = .ok (.iconst 0, 1) := by decide +kernel
theorem d_Fo_letterAt_26 : decode c_Fo_letterAt 26 = .ok (.ireturn, 1) := by decide +kernel
theorem d_Fo_placeOfForeignLetter_0 : decode c_Fo_placeOfForeignLetter 0 = .ok (.iconst 0, 1) := by decide +kernel
theorem d_Fo_placeOfForeignLetter_1 : decode c_Fo_placeOfForeignLetter 1 = .ok (.istore_n 1, 1) := by decide +kernel
theorem d_Fo_placeOfForeignLetter_2 : decode c_Fo_placeOfForeignLetter 2 = .ok (.iload_n 1, 1) := by decide +kernel
theorem d_Fo_placeOfForeignLetter_3 : decode c_Fo_placeOfForeignLetter 3 = .ok (.aload_n 0, 1) := by decide +kernel
theorem d_Fo_placeOfForeignLetter_4 : decode c_Fo_placeOfForeignLetter 4 = .ok (.getfield 15, 3) := by decide +kernel
theorem d_Fo_placeOfForeignLetter_7 : decode c_Fo_placeOfForeignLetter 7 = .ok (.if_icmp .ge 22, 3) := by decide +kernel
theorem d_Fo_placeOfForeignLetter_10 : decode c_Fo_placeOfForeignLetter 10 = .ok (.aload_n 0, 1) := by decide +kernel
theorem d_Fo_placeOfForeignLetter_11 : decode c_Fo_placeOfForeignLetter 11 = .ok (.iload_n 1, 1) := by decide +kernel
theorem d_Fo_placeOfForeignLetter_12 : decode c_Fo_placeOfForeignLetter 12 = .ok (.invokevirtual 23, 3) := by decide +kernel
theorem d_Fo_placeOfForeignLetter_15 : decode c_Fo_placeOfForeignLetter 15 = .ok (.invokestatic 27, 3) := by decide +kernel
theorem d_Fo_placeOfForeignLetter_18 : decode c_Fo_placeOfForeignLetter 18 = .ok (.ifCond .eq 5, 3) := by decide +kernel
theorem d_Fo_placeOfForeignLetter_21 : decode c_Fo_placeOfForeignLetter 21 = .ok (.iload_n 1, 1) := by decide +kernel
theorem d_Fo_placeOfForeignLetter_22 : decode c_Fo_placeOfForeignLetter 22 = .ok (.ireturn, 1) := by decide +kernel
theorem d_Fo_placeOfForeignLetter_23 : decode c_Fo_placeOfForeignLetter 23 = .ok (.iinc 1 1, 3) := by decide +kernel
theorem d_Fo_placeOfForeignLetter_26 : decode c_Fo_placeOfForeignLetter 26 = .ok (.goto (-24), 3) := by decide +kernel
theorem d_Fo_placeOfForeignLetter_29 : decode c_Fo_placeOfForeignLetter 29 = .ok (.iconst (-1), 1) := by decide +kernel
theorem d_Fo_placeOfForeignLetter_30 : decode c_Fo_placeOfForeignLetter 30 = .ok (.ireturn, 1) := by decide +kernel
