/-! decode rows: Pi -/
theorem d_Pi_init_0 : decode c_Pi_init 0 = .ok (.aload_n 0, 1) := by decide +kernel
theorem d_Pi_init_1 : decode c_Pi_init 1 = .ok (.invokespecial 3, 3) := by decide +kernel
theorem d_Pi_init_4 : decode c_Pi_init 4 = .ok (.aload_n 0, 1) := by decide +kernel
theorem d_Pi_init_5 : decode c_Pi_init 5 = .ok (.sipush 520, 3) := by decide +kernel
theorem d_Pi_init_8 : decode c_Pi_init 8 = .ok (.newarray .byte, 2) := by decide +kernel
theorem d_Pi_init_10 : decode c_Pi_init 10 = .ok (.putfield 11, 3) := by decide +kernel
theorem d_Pi_init_13 : decode c_Pi_init 13 = .ok (.aload_n 0, 1) := by decide +kernel
theorem d_Pi_init_14 : decode c_Pi_init 14 = .ok (.iconst 0, 1) := by decide +kernel
theorem d_Pi_init_15 : decode c_Pi_init 15 = .ok (.putfield 15, 3) := by decide +kernel
theorem d_Pi_init_18 : decode c_Pi_init 18 = .ok (.aload_n 0, 1) := by decide +kernel
theorem d_Pi_init_19 : decode c_Pi_init 19 = .ok (.iconst (-1), 1) := by decide +kernel
theorem d_Pi_init_20 : decode c_Pi_init 20 = .ok (.putfield 19, 3) := by decide +kernel
theorem d_Pi_init_23 : decode c_Pi_init 23 = .ok (.return_, 1) := by decide +kernel
theorem d_Pi_becomeEmpty_0 : decode c_Pi_becomeEmpty 0 = .ok (.aload_n 0, 1) := by decide +kernel
theorem d_Pi_becomeEmpty_1 : decode c_Pi_becomeEmpty 1 = .ok (.iconst 0, 1) := by decide +kernel
theorem d_Pi_becomeEmpty_2 : decode c_Pi_becomeEmpty 2 = .ok (.putfield 15, 3) := by decide +kernel
theorem d_Pi_becomeEmpty_5 : decode c_Pi_becomeEmpty 5 = .ok (.aload_n 0, 1) := by decide +kernel
theorem d_Pi_becomeEmpty_6 : decode c_Pi_becomeEmpty 6 = .ok (.iconst (-1), 1) := by decide +kernel
theorem d_Pi_becomeEmpty_7 : decode c_Pi_becomeEmpty 7 = .ok (.putfield 19, 3) := by decide +kernel
theorem d_Pi_becomeEmpty_10 : decode c_Pi_becomeEmpty 10 = .ok (.return_, 1) := by decide +kernel
theorem d_Pi_letZerosComeHere_0 : decode c_Pi_letZerosComeHere 0 = .ok (.aload_n 0, 1) := by decide +kernel
theorem d_Pi_letZerosComeHere_1 : decode c_Pi_letZerosComeHere 1 = .ok (.aload_n 0, 1) := by decide +kernel
theorem d_Pi_letZerosComeHere_2 : decode c_Pi_letZerosComeHere 2 = .ok (.getfield 15, 3) := by decide +kernel
theorem d_Pi_letZerosComeHere_5 : decode c_Pi_letZerosComeHere 5 = .ok (.putfield 19, 3) := by decide +kernel
theorem d_Pi_letZerosComeHere_8 : decode c_Pi_letZerosComeHere 8 = .ok (.return_, 1) := by decide +kernel
theorem d_Pi_letterAt_0 : decode c_Pi_letterAt 0 = .ok (.iload_n 1, 1) := by decide +kernel
theorem d_Pi_letterAt_1 : decode c_Pi_letterAt 1 = .ok (.ifCond .lt 20, 3) := by decide +kernel
theorem d_Pi_letterAt_4 : decode c_Pi_letterAt 4 = .ok (.iload_n 1, 1) := by decide +kernel
theorem d_Pi_letterAt_5 : decode c_Pi_letterAt 5 = .ok (.aload_n 0, 1) := by decide +kernel
theorem d_Pi_letterAt_6 : decode c_Pi_letterAt 6 = .ok (.getfield 15, 3) := by decide +kernel
theorem d_Pi_letterAt_9 : decode c_Pi_letterAt 9 = .ok (.if_icmp .ge 12, 3) := by decide +kernel
theorem d_Pi_letterAt_12 : decode c_Pi_letterAt 12 = .ok (.aload_n 0, 1) := by decide +kernel
theorem d_Pi_letterAt_13 : decode c_Pi_letterAt 13 = .ok (.getfield 11, 3) := by decide +kernel
theorem d_Pi_letterAt_16 : decode c_Pi_letterAt 16 = .ok (.iload_n 1, 1) := by decide +kernel
theorem d_Pi_letterAt_17 : decode c_Pi_letterAt 17 = .ok (.baload, 1) := by decide +kernel
theorem d_Pi_letterAt_18 : decode c_Pi_letterAt 18 = .ok (.goto 5, 3) := by decide +kernel
theorem d_Pi_letterAt_21 : decode c_Pi_letterAt 21 = .ok (.bipush 32, 2) := by decide +kernel
theorem d_Pi_letterAt_23 : decode c_Pi_letterAt 23 = .ok (.ireturn, 1) := by decide +kernel
theorem d_Pi_put_0 : decode c_Pi_put 0 = .ok (.aload_n 0, 1) := by decide +kernel
theorem d_Pi_put_1 : decode c_Pi_put 1 = .ok (.getfield 15, 3) := by decide +kernel
theorem d_Pi_put_4 : decode c_Pi_put 4 = .ok (.aload_n 0, 1) := by decide +kernel
theorem d_Pi_put_5 : decode c_Pi_put 5 = .ok (.getfield 11, 3) := by decide +kernel
theorem d_Pi_put_8 : decode c_Pi_put 8 = .ok (.arraylength, 1) := by decide +kernel
theorem d_Pi_put_9 : decode c_Pi_put 9 = .ok (.if_icmp .ge 24, 3) := by decide +kernel
theorem d_Pi_put_12 : decode c_Pi_put 12 = .ok (.aload_n 0, 1) := by decide +kernel
theorem d_Pi_put_13 : decode c_Pi_put 13 = .ok (.getfield 11, 3) := by decide +kernel
theorem d_Pi_put_16 : decode c_Pi_put 16 = .ok (.aload_n 0, 1) := by decide +kernel
theorem d_Pi_put_17 : decode c_Pi_put 17 = .ok (.getfield 15, 3) := by decide +kernel
theorem d_Pi_put_20 : decode c_Pi_put 20 = .ok (.iload_n 1, 1) := by decide +kernel
theorem d_Pi_put_21 : decode c_Pi_put 21 = .ok (.i2b, 1) := by decide +kernel
theorem d_Pi_put_22 : decode c_Pi_put 22 = .ok (.bastore, 1) := by decide +kernel
theorem d_Pi_put_23 : decode c_Pi_put 23 = .ok (.aload_n 0, 1) := by decide +kernel
theorem d_Pi_put_24 : decode c_Pi_put 24 = .ok (.dup, 1) := by decide +kernel
theorem d_Pi_put_25 : decode c_Pi_put 25 = .ok (.getfield 15, 3) := by decide +kernel
theorem d_Pi_put_28 : decode c_Pi_put 28 = .ok (.iconst 1, 1) := by decide +kernel
theorem d_Pi_put_29 : decode c_Pi_put 29 = .ok (.iadd, 1) := by decide +kernel
theorem d_Pi_put_30 : decode c_Pi_put 30 = .ok (.putfield 15, 3) := by decide +kernel
theorem d_Pi_put_33 : decode c_Pi_put 33 = .ok (.return_, 1) := by decide +kernel
theorem d_Pi_putWord_0 : decode c_Pi_putWord 0 = .ok (.iconst 0, 1) := by decide +kernel
theorem d_Pi_putWord_1 : decode c_Pi_putWord 1 = .ok (.istore_n 2, 1) := by decide +kernel
theorem d_Pi_putWord_2 : decode c_Pi_putWord 2 = .ok (.iload_n 2, 1) := by decide +kernel
theorem d_Pi_putWord_3 : decode c_Pi_putWord 3 = .ok (.aload_n 1, 1) := by decide +kernel
theorem d_Pi_putWord_4 : decode c_Pi_putWord 4 = .ok (.invokevirtual 22, 3) := by decide +kernel
theorem d_Pi_putWord_7 : decode c_Pi_putWord 7 = .ok (.if_icmp .ge 18, 3) := by decide +kernel
theorem d_Pi_putWord_10 : decode c_Pi_putWord 10 = .ok (.aload_n 0, 1) := by decide +kernel
theorem d_Pi_putWord_11 : decode c_Pi_putWord 11 = .ok (.aload_n 1, 1) := by decide +kernel
theorem d_Pi_putWord_12 : decode c_Pi_putWord 12 = .ok (.iload_n 2, 1) := by decide +kernel
theorem d_Pi_putWord_13 : decode c_Pi_putWord 13 = .ok (.invokevirtual 28, 3) := by decide +kernel
theorem d_Pi_putWord_16 : decode c_Pi_putWord 16 = .ok (.invokevirtual 32, 3) := by decide +kernel
theorem d_Pi_putWord_19 : decode c_Pi_putWord 19 = .ok (.iinc 2 1, 3) := by decide +kernel
theorem d_Pi_putWord_22 : decode c_Pi_putWord 22 = .ok (.goto (-20), 3) := by decide +kernel
theorem d_Pi_putWord_25 : decode c_Pi_putWord 25 = .ok (.return_, 1) := by decide +kernel
theorem d_Pi_putSign_0 : decode c_Pi_putSign 0 = .ok (.iload_n 1, 1) := by decide +kernel
theorem d_Pi_putSign_1 : decode c_Pi_putSign 1 = .ok (.ifCond .eq 12, 3) := by decide +kernel
theorem d_Pi_putSign_4 : decode c_Pi_putSign 4 = .ok (.aload_n 0, 1) := by decide +kernel
theorem d_Pi_putSign_5 : decode c_Pi_putSign 5 = .ok (.bipush 45, 2) := by decide +kernel
theorem d_Pi_putSign_7 : decode c_Pi_putSign 7 = .ok (.invokevirtual 32, 3) := by decide +kernel
theorem d_Pi_putSign_10 : decode c_Pi_putSign 10 = .ok (.goto 32, 3) := by decide +kernel
theorem d_Pi_putSign_13 : decode c_Pi_putSign 13 = .ok (.aload_n 2, 1) := by decide +kernel
theorem d_Pi_putSign_14 : decode c_Pi_putSign 14 = .ok (.getfield 36, 3) := by decide +kernel
theorem d_Pi_putSign_17 : decode c_Pi_putSign 17 = .ok (.ifCond .eq 12, 3) := by decide +kernel
theorem d_Pi_putSign_20 : decode c_Pi_putSign 20 = .ok (.aload_n 0, 1) := by decide +kernel
theorem d_Pi_putSign_21 : decode c_Pi_putSign 21 = .ok (.bipush 43, 2) := by decide +kernel
theorem d_Pi_putSign_23 : decode c_Pi_putSign 23 = .ok (.invokevirtual 32, 3) := by decide +kernel
theorem d_Pi_putSign_26 : decode c_Pi_putSign 26 = .ok (.goto 16, 3) := by decide +kernel
theorem d_Pi_putSign_29 : decode c_Pi_putSign 29 = .ok (.aload_n 2, 1) := by decide +kernel
theorem d_Pi_putSign_30 : decode c_Pi_putSign 30 = .ok (.getfield 42, 3) := by decide +kernel
theorem d_Pi_putSign_33 : decode c_Pi_putSign 33 = .ok (.ifCond .eq 9, 3) := by decide +kernel
theorem d_Pi_putSign_36 : decode c_Pi_putSign 36 = .ok (.aload_n 0, 1) := by decide +kernel
theorem d_Pi_putSign_37 : decode c_Pi_putSign 37 = .ok (.bipush 32, 2) := by decide +kernel
theorem d_Pi_putSign_39 : decode c_Pi_putSign 39 = .ok (.invokevirtual 32, 3) := by decide +kernel
theorem d_Pi_putSign_42 : decode c_Pi_putSign 42 = .ok (.return_, 1) := by decide +kernel
theorem d_Pi_putDigit_0 : decode c_Pi_putDigit 0 = .ok (.aload_n 0, 1) := by decide +kernel
theorem d_Pi_putDigit_1 : decode c_Pi_putDigit 1 = .ok (.ldc 45, 2) := by decide +kernel
theorem d_Pi_putDigit_3 : decode c_Pi_putDigit 3 = .ok (.iload_n 1, 1) := by decide +kernel
theorem d_Pi_putDigit_4 : decode c_Pi_putDigit 4 = .ok (.bipush 15, 2) := by decide +kernel
theorem d_Pi_putDigit_6 : decode c_Pi_putDigit 6 = .ok (.iand, 1) := by decide +kernel
theorem d_Pi_putDigit_7 : decode c_Pi_putDigit 7 = .ok (.invokevirtual 28, 3) := by decide +kernel
theorem d_Pi_putDigit_10 : decode c_Pi_putDigit 10 = .ok (.invokevirtual 32, 3) := by decide +kernel
theorem d_Pi_putDigit_13 : decode c_Pi_putDigit 13 = .ok (.return_, 1) := by decide +kernel
theorem d_Pi_putWhole_0 : decode c_Pi_putWhole 0 = .ok (.aload_n 0, 1) := by decide +kernel
theorem d_Pi_putWhole_1 : decode c_Pi_putWhole 1 = .ok (.getfield 15, 3) := by decide +kernel
theorem d_Pi_putWhole_4 : decode c_Pi_putWhole 4 = .ok (.istore 5, 2) := by decide +kernel
theorem d_Pi_putWhole_6 : decode c_Pi_putWhole 6 = .ok (.iconst 0, 1) := by decide +kernel
theorem d_Pi_putWhole_7 : decode c_Pi_putWhole 7 = .ok (.istore 6, 2) := by decide +kernel
theorem d_Pi_putWhole_9 : decode c_Pi_putWhole 9 = .ok (.iload 6, 2) := by decide +kernel
theorem d_Pi_putWhole_11 : decode c_Pi_putWhole 11 = .ok (.iload 4, 2) := by decide +kernel
theorem d_Pi_putWhole_13 : decode c_Pi_putWhole 13 = .ok (.if_icmp .ge 15, 3) := by decide +kernel
theorem d_Pi_putWhole_16 : decode c_Pi_putWhole 16 = .ok (.aload_n 0, 1) := by decide +kernel
theorem d_Pi_putWhole_17 : decode c_Pi_putWhole 17 = .ok (.bipush 48, 2) := by decide +kernel
theorem d_Pi_putWhole_19 : decode c_Pi_putWhole 19 = .ok (.invokevirtual 32, 3) := by decide +kernel
theorem d_Pi_putWhole_22 : decode c_Pi_putWhole 22 = .ok (.iinc 6 1, 3) := by decide +kernel
theorem d_Pi_putWhole_25 : decode c_Pi_putWhole 25 = .ok (.goto (-16), 3) := by decide +kernel
theorem d_Pi_putWhole_28 : decode c_Pi_putWhole 28 = .ok (.lload_n 1, 1) := by decide +kernel
theorem d_Pi_putWhole_29 : decode c_Pi_putWhole 29 = .ok (.lstore 6, 2) := by decide +kernel
theorem d_Pi_putWhole_31 : decode c_Pi_putWhole 31 = .ok (.aload_n 0, 1) := by decide +kernel
theorem d_Pi_putWhole_32 : decode c_Pi_putWhole 32 = .ok (.getfield 15, 3) := by decide +kernel
theorem d_Pi_putWhole_35 : decode c_Pi_putWhole 35 = .ok (.iconst 1, 1) := by decide +kernel
theorem d_Pi_putWhole_36 : decode c_Pi_putWhole 36 = .ok (.isub, 1) := by decide +kernel
theorem d_Pi_putWhole_37 : decode c_Pi_putWhole 37 = .ok (.istore 8, 2) := by decide +kernel
theorem d_Pi_putWhole_39 : decode c_Pi_putWhole 39 = .ok (.iload 8, 2) := by decide +kernel
theorem d_Pi_putWhole_41 : decode c_Pi_putWhole 41 = .ok (.iload 5, 2) := by decide +kernel
theorem d_Pi_putWhole_43 : decode c_Pi_putWhole 43 = .ok (.if_icmp .lt 46, 3) := by decide +kernel
theorem d_Pi_putWhole_46 : decode c_Pi_putWhole 46 = .ok (.lload 6, 2) := by decide +kernel
theorem d_Pi_putWhole_48 : decode c_Pi_putWhole 48 = .ok (.iload_n 3, 1) := by decide +kernel
theorem d_Pi_putWhole_49 : decode c_Pi_putWhole 49 = .ok (.invokestatic 47, 3) := by decide +kernel
theorem d_Pi_putWhole_52 : decode c_Pi_putWhole 52 = .ok (.lstore 9, 2) := by decide +kernel
theorem d_Pi_putWhole_54 : decode c_Pi_putWhole 54 = .ok (.aload_n 0, 1) := by decide +kernel
theorem d_Pi_putWhole_55 : decode c_Pi_putWhole 55 = .ok (.getfield 11, 3) := by decide +kernel
theorem d_Pi_putWhole_58 : decode c_Pi_putWhole 58 = .ok (.iload 8, 2) := by decide +kernel
theorem d_Pi_putWhole_60 : decode c_Pi_putWhole 60 = .ok (.ldc 45, 2) := by decide +kernel
theorem d_Pi_putWhole_62 : decode c_Pi_putWhole 62 = .ok (.lload 6, 2) := by decide +kernel
theorem d_Pi_putWhole_64 : decode c_Pi_putWhole 64 = .ok (.iload_n 3, 1) := by decide +kernel
theorem d_Pi_putWhole_65 : decode c_Pi_putWhole 65 = .ok (.i2l, 1) := by decide +kernel
theorem d_Pi_putWhole_66 : decode c_Pi_putWhole 66 = .ok (.lload 9, 2) := by decide +kernel
theorem d_Pi_putWhole_68 : decode c_Pi_putWhole 68 = .ok (.lmul, 1) := by decide +kernel
theorem d_Pi_putWhole_69 : decode c_Pi_putWhole 69 = .ok (.lsub, 1) := by decide +kernel
theorem d_Pi_putWhole_70 : decode c_Pi_putWhole 70 = .ok (.l2i, 1) := by decide +kernel
theorem d_Pi_putWhole_71 : decode c_Pi_putWhole 71 = .ok (.bipush 15, 2) := by decide +kernel
theorem d_Pi_putWhole_73 : decode c_Pi_putWhole 73 = .ok (.iand, 1) := by decide +kernel
theorem d_Pi_putWhole_74 : decode c_Pi_putWhole 74 = .ok (.invokevirtual 28, 3) := by decide +kernel
theorem d_Pi_putWhole_77 : decode c_Pi_putWhole 77 = .ok (.i2b, 1) := by decide +kernel
theorem d_Pi_putWhole_78 : decode c_Pi_putWhole 78 = .ok (.bastore, 1) := by decide +kernel
theorem d_Pi_putWhole_79 : decode c_Pi_putWhole 79 = .ok (.lload 9, 2) := by decide +kernel
theorem d_Pi_putWhole_81 : decode c_Pi_putWhole 81 = .ok (.lstore 6, 2) := by decide +kernel
theorem d_Pi_putWhole_83 : decode c_Pi_putWhole 83 = .ok (.iinc 8 (-1), 3) := by decide +kernel
theorem d_Pi_putWhole_86 : decode c_Pi_putWhole 86 = .ok (.goto (-47), 3) := by decide +kernel
theorem d_Pi_putWhole_89 : decode c_Pi_putWhole 89 = .ok (.return_, 1) := by decide +kernel
theorem d_Pi_digitsOf_0 : decode c_Pi_digitsOf 0 = .ok (.lload_n 0, 1) := by decide +kernel
theorem d_Pi_digitsOf_1 : decode c_Pi_digitsOf 1 = .ok (.lstore_n 3, 1) := by decide +kernel
theorem d_Pi_digitsOf_2 : decode c_Pi_digitsOf 2 = .ok (.iconst 0, 1) := by decide +kernel
theorem d_Pi_digitsOf_3 : decode c_Pi_digitsOf 3 = .ok (.istore 5, 2) := by decide +kernel
theorem d_Pi_digitsOf_5 : decode c_Pi_digitsOf 5 = .ok (.iload 5, 2) := by decide +kernel
theorem d_Pi_digitsOf_7 : decode c_Pi_digitsOf 7 = .ok (.bipush 22, 2) := by decide +kernel
theorem d_Pi_digitsOf_9 : decode c_Pi_digitsOf 9 = .ok (.if_icmp .ge 24, 3) := by decide +kernel
theorem d_Pi_digitsOf_12 : decode c_Pi_digitsOf 12 = .ok (.lload_n 3, 1) := by decide +kernel
theorem d_Pi_digitsOf_13 : decode c_Pi_digitsOf 13 = .ok (.lconst 0, 1) := by decide +kernel
theorem d_Pi_digitsOf_14 : decode c_Pi_digitsOf 14 = .ok (.lcmp, 1) := by decide +kernel
theorem d_Pi_digitsOf_15 : decode c_Pi_digitsOf 15 = .ok (.ifCond .ne 6, 3) := by decide +kernel
theorem d_Pi_digitsOf_18 : decode c_Pi_digitsOf 18 = .ok (.iload 5, 2) := by decide +kernel
theorem d_Pi_digitsOf_20 : decode c_Pi_digitsOf 20 = .ok (.ireturn, 1) := by decide +kernel
theorem d_Pi_digitsOf_21 : decode c_Pi_digitsOf 21 = .ok (.lload_n 3, 1) := by decide +kernel
theorem d_Pi_digitsOf_22 : decode c_Pi_digitsOf 22 = .ok (.iload_n 2, 1) := by decide +kernel
theorem d_Pi_digitsOf_23 : decode c_Pi_digitsOf 23 = .ok (.invokestatic 47, 3) := by decide +kernel
theorem d_Pi_digitsOf_26 : decode c_Pi_digitsOf 26 = .ok (.lstore_n 3, 1) := by decide +kernel
theorem d_Pi_digitsOf_27 : decode c_Pi_digitsOf 27 = .ok (.iinc 5 1, 3) := by decide +kernel
theorem d_Pi_digitsOf_30 : decode c_Pi_digitsOf 30 = .ok (.goto (-25), 3) := by decide +kernel
theorem d_Pi_digitsOf_33 : decode c_Pi_digitsOf 33 = .ok (.bipush 22, 2) := by decide +kernel
theorem d_Pi_digitsOf_35 : decode c_Pi_digitsOf 35 = .ok (.ireturn, 1) := by decide +kernel
theorem d_Pi_withoutLastDigit_0 : decode c_Pi_withoutLastDigit 0 = .ok (.iload_n 2, 1) := by decide +kernel
theorem d_Pi_withoutLastDigit_1 : decode c_Pi_withoutLastDigit 1 = .ok (.bipush 8, 2) := by decide +kernel
theorem d_Pi_withoutLastDigit_3 : decode c_Pi_withoutLastDigit 3 = .ok (.if_icmp .ne 7, 3) := by decide +kernel
theorem d_Pi_withoutLastDigit_6 : decode c_Pi_withoutLastDigit 6 = .ok (.lload_n 0, 1) := by decide +kernel
theorem d_Pi_withoutLastDigit_7 : decode c_Pi_withoutLastDigit 7 = .ok (.iconst 3, 1) := by decide +kernel
theorem d_Pi_withoutLastDigit_8 : decode c_Pi_withoutLastDigit 8 = .ok (.lushr, 1) := by decide +kernel
theorem d_Pi_withoutLastDigit_9 : decode c_Pi_withoutLastDigit 9 = .ok (.lreturn, 1) := by decide +kernel
theorem d_Pi_withoutLastDigit_10 : decode c_Pi_withoutLastDigit 10 = .ok (.iload_n 2, 1) := by decide +kernel
theorem d_Pi_withoutLastDigit_11 : decode c_Pi_withoutLastDigit 11 = .ok (.bipush 16, 2) := by decide +kernel
theorem d_Pi_withoutLastDigit_13 : decode c_Pi_withoutLastDigit 13 = .ok (.if_icmp .ne 7, 3) := by decide +kernel
theorem d_Pi_withoutLastDigit_16 : decode c_Pi_withoutLastDigit 16 = .ok (.lload_n 0, 1) := by decide +kernel
theorem d_Pi_withoutLastDigit_17 : decode c_Pi_withoutLastDigit 17 = .ok (.iconst 4, 1) := by decide +kernel
theorem d_Pi_withoutLastDigit_18 : decode c_Pi_withoutLastDigit 18 = .ok (.lushr, 1) := by decide +kernel
theorem d_Pi_withoutLastDigit_19 : decode c_Pi_withoutLastDigit 19 = .ok (.lreturn, 1) := by decide +kernel
theorem d_Pi_withoutLastDigit_20 : decode c_Pi_withoutLastDigit 20 = .ok (.lload_n 0, 1) := by decide +kernel
theorem d_Pi_withoutLastDigit_21 : decode c_Pi_withoutLastDigit 21 = .ok (.iconst 1, 1) := by decide +kernel
theorem d_Pi_withoutLastDigit_22 : decode c_Pi_withoutLastDigit 22 = .ok (.lushr, 1) := by decide +kernel
theorem d_Pi_withoutLastDigit_23 : decode c_Pi_withoutLastDigit 23 = .ok (.ldc2_w 51, 3) := by decide +kernel
theorem d_Pi_withoutLastDigit_26 : decode c_Pi_withoutLastDigit 26 = .ok (.ldiv, 1) := by decide +kernel
theorem d_Pi_withoutLastDigit_27 : decode c_Pi_withoutLastDigit 27 = .ok (.lreturn, 1) := by decide +kernel
theorem d_Pi_becomeGreat_0 : decode c_Pi_becomeGreat 0 = .ok (.iconst 0, 1) := by decide +kernel
theorem d_Pi_becomeGreat_1 : decode c_Pi_becomeGreat 1 = .ok (.istore_n 1, 1) := by decide +kernel
theorem d_Pi_becomeGreat_2 : decode c_Pi_becomeGreat 2 = .ok (.iload_n 1, 1) := by decide +kernel
theorem d_Pi_becomeGreat_3 : decode c_Pi_becomeGreat 3 = .ok (.aload_n 0, 1) := by decide +kernel
theorem d_Pi_becomeGreat_4 : decode c_Pi_becomeGreat 4 = .ok (.getfield 15, 3) := by decide +kernel
theorem d_Pi_becomeGreat_7 : decode c_Pi_becomeGreat 7 = .ok (.if_icmp .ge 50, 3) := by decide +kernel
theorem d_Pi_becomeGreat_10 : decode c_Pi_becomeGreat 10 = .ok (.aload_n 0, 1) := by decide +kernel
theorem d_Pi_becomeGreat_11 : decode c_Pi_becomeGreat 11 = .ok (.getfield 11, 3) := by decide +kernel
theorem d_Pi_becomeGreat_14 : decode c_Pi_becomeGreat 14 = .ok (.iload_n 1, 1) := by decide +kernel
theorem d_Pi_becomeGreat_15 : decode c_Pi_becomeGreat 15 = .ok (.baload, 1) := by decide +kernel
theorem d_Pi_becomeGreat_16 : decode c_Pi_becomeGreat 16 = .ok (.bipush 97, 2) := by decide +kernel
theorem d_Pi_becomeGreat_18 : decode c_Pi_becomeGreat 18 = .ok (.if_icmp .lt 33, 3) := by decide +kernel
theorem d_Pi_becomeGreat_21 : decode c_Pi_becomeGreat 21 = .ok (.aload_n 0, 1) := by decide +kernel
theorem d_Pi_becomeGreat_22 : decode c_Pi_becomeGreat 22 = .ok (.getfield 11, 3) := by decide +kernel
theorem d_Pi_becomeGreat_25 : decode c_Pi_becomeGreat 25 = .ok (.iload_n 1, 1) := by decide +kernel
theorem d_Pi_becomeGreat_26 : decode c_Pi_becomeGreat 26 = .ok (.baload, 1) := by decide +kernel
theorem d_Pi_becomeGreat_27 : decode c_Pi_becomeGreat 27 = .ok (.bipush 122, 2) := by decide +kernel
theorem d_Pi_becomeGreat_29 : decode c_Pi_becomeGreat 29 = .ok (.if_icmp .gt 22, 3) := by decide +kernel
theorem d_Pi_becomeGreat_32 : decode c_Pi_becomeGreat 32 = .ok (.aload_n 0, 1) := by decide +kernel
theorem d_Pi_becomeGreat_33 : decode c_Pi_becomeGreat 33 = .ok (.getfield 11, 3) := by decide +kernel
theorem d_Pi_becomeGreat_36 : decode c_Pi_becomeGreat 36 = .ok (.iload_n 1, 1) := by decide +kernel
theorem d_Pi_becomeGreat_37 : decode c_Pi_becomeGreat 37 = .ok (.aload_n 0, 1) := by decide +kernel
theorem d_Pi_becomeGreat_38 : decode c_Pi_becomeGreat 38 = .ok (.getfield 11, 3) := by decide +kernel
theorem d_Pi_becomeGreat_41 : decode c_Pi_becomeGreat 41 = .ok (.iload_n 1, 1) := by decide +kernel
theorem d_Pi_becomeGreat_42 : decode c_Pi_becomeGreat 42 = .ok (.baload, 1) := by decide +kernel
theorem d_Pi_becomeGreat_43 : decode c_Pi_becomeGreat 43 = .ok (.bipush 97, 2) := by decide +kernel
theorem d_Pi_becomeGreat_45 : decode c_Pi_becomeGreat 45 = .ok (.isub, 1) := by decide +kernel
theorem d_Pi_becomeGreat_46 : decode c_Pi_becomeGreat 46 = .ok (.bipush 65, 2) := by decide +kernel
theorem d_Pi_becomeGreat_48 : decode c_Pi_becomeGreat 48 = .ok (.iadd, 1) := by decide +kernel
theorem d_Pi_becomeGreat_49 : decode c_Pi_becomeGreat 49 = .ok (.i2b, 1) := by decide +kernel
theorem d_Pi_becomeGreat_50 : decode c_Pi_becomeGreat 50 = .ok (.bastore, 1) := by decide +kernel
theorem d_Pi_becomeGreat_51 : decode c_Pi_becomeGreat 51 = .ok (.iinc 1 1, 3) := by decide +kernel
theorem d_Pi_becomeGreat_54 : decode c_Pi_becomeGreat 54 = .ok (.goto (-52), 3) := by decide +kernel
theorem d_Pi_becomeGreat_57 : decode c_Pi_becomeGreat 57 = .ok (.return_, 1) := by decide +kernel
