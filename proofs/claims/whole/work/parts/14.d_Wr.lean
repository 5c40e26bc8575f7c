/-! decode rows: Wr -/
theorem d_Wr_init_0 : decode c_Wr_init 0 = .ok (.aload_n 0, 1) := by decide +kernel
theorem d_Wr_init_1 : decode c_Wr_init 1 = .ok (.invokespecial 5, 3) := by decide +kernel
theorem d_Wr_init_4 : decode c_Wr_init 4 = .ok (.aload_n 0, 1) := by decide +kernel
theorem d_Wr_init_5 : decode c_Wr_init 5 = .ok (.new 11, 3) := by decide +kernel
theorem d_Wr_init_8 : decode c_Wr_init 8 = .ok (.dup, 1) := by decide +kernel
theorem d_Wr_init_9 : decode c_Wr_init 9 = .ok (.invokespecial 13, 3) := by decide +kernel
theorem d_Wr_init_12 : decode c_Wr_init 12 = .ok (.putfield 14, 3) := by decide +kernel
theorem d_Wr_init_15 : decode c_Wr_init 15 = .ok (.aload_n 0, 1) := by decide +kernel
theorem d_Wr_init_16 : decode c_Wr_init 16 = .ok (.new 18, 3) := by decide +kernel
theorem d_Wr_init_19 : decode c_Wr_init 19 = .ok (.dup, 1) := by decide +kernel
theorem d_Wr_init_20 : decode c_Wr_init 20 = .ok (.invokespecial 20, 3) := by decide +kernel
theorem d_Wr_init_23 : decode c_Wr_init 23 = .ok (.putfield 21, 3) := by decide +kernel
theorem d_Wr_init_26 : decode c_Wr_init 26 = .ok (.return_, 1) := by decide +kernel
theorem d_Wr_write_0 : decode c_Wr_write 0 = .ok (.aload_n 0, 1) := by decide +kernel
theorem d_Wr_write_1 : decode c_Wr_write 1 = .ok (.getfield 14, 3) := by decide +kernel
theorem d_Wr_write_4 : decode c_Wr_write 4 = .ok (.invokevirtual 25, 3) := by decide +kernel
theorem d_Wr_write_7 : decode c_Wr_write 7 = .ok (.aload_n 3, 1) := by decide +kernel
theorem d_Wr_write_8 : decode c_Wr_write 8 = .ok (.getfield 28, 3) := by decide +kernel
theorem d_Wr_write_11 : decode c_Wr_write 11 = .ok (.lookupswitch 127 #[(37, 65), (99, 77), (100, 85), (105, 85), (111, 105), (117, 94), (120, 116)], 65) := by decide +kernel
theorem d_Wr_write_76 : decode c_Wr_write 76 = .ok (.aload_n 0, 1) := by decide +kernel
theorem d_Wr_write_77 : decode c_Wr_write 77 = .ok (.getfield 14, 3) := by decide +kernel
theorem d_Wr_write_80 : decode c_Wr_write 80 = .ok (.bipush 37, 2) := by decide +kernel
theorem d_Wr_write_82 : decode c_Wr_write 82 = .ok (.invokevirtual 34, 3) := by decide +kernel
theorem d_Wr_write_85 : decode c_Wr_write 85 = .ok (.goto 59, 3) := by decide +kernel
theorem d_Wr_write_88 : decode c_Wr_write 88 = .ok (.aload_n 0, 1) := by decide +kernel
theorem d_Wr_write_89 : decode c_Wr_write 89 = .ok (.lload_n 1, 1) := by decide +kernel
theorem d_Wr_write_90 : decode c_Wr_write 90 = .ok (.invokevirtual 38, 3) := by decide +kernel
theorem d_Wr_write_93 : decode c_Wr_write 93 = .ok (.goto 51, 3) := by decide +kernel
theorem d_Wr_write_96 : decode c_Wr_write 96 = .ok (.aload_n 0, 1) := by decide +kernel
theorem d_Wr_write_97 : decode c_Wr_write 97 = .ok (.lload_n 1, 1) := by decide +kernel
theorem d_Wr_write_98 : decode c_Wr_write 98 = .ok (.aload_n 3, 1) := by decide +kernel
theorem d_Wr_write_99 : decode c_Wr_write 99 = .ok (.invokevirtual 42, 3) := by decide +kernel
theorem d_Wr_write_102 : decode c_Wr_write 102 = .ok (.goto 42, 3) := by decide +kernel
theorem d_Wr_write_105 : decode c_Wr_write 105 = .ok (.aload_n 0, 1) := by decide +kernel
theorem d_Wr_write_106 : decode c_Wr_write 106 = .ok (.lload_n 1, 1) := by decide +kernel
theorem d_Wr_write_107 : decode c_Wr_write 107 = .ok (.bipush 10, 2) := by decide +kernel
theorem d_Wr_write_109 : decode c_Wr_write 109 = .ok (.aload_n 3, 1) := by decide +kernel
theorem d_Wr_write_110 : decode c_Wr_write 110 = .ok (.invokevirtual 46, 3) := by decide +kernel
theorem d_Wr_write_113 : decode c_Wr_write 113 = .ok (.goto 31, 3) := by decide +kernel
theorem d_Wr_write_116 : decode c_Wr_write 116 = .ok (.aload_n 0, 1) := by decide +kernel
theorem d_Wr_write_117 : decode c_Wr_write 117 = .ok (.lload_n 1, 1) := by decide +kernel
theorem d_Wr_write_118 : decode c_Wr_write 118 = .ok (.bipush 8, 2) := by decide +kernel
theorem d_Wr_write_120 : decode c_Wr_write 120 = .ok (.aload_n 3, 1) := by decide +kernel
theorem d_Wr_write_121 : decode c_Wr_write 121 = .ok (.invokevirtual 46, 3) := by decide +kernel
theorem d_Wr_write_124 : decode c_Wr_write 124 = .ok (.goto 20, 3) := by decide +kernel
theorem d_Wr_write_127 : decode c_Wr_write 127 = .ok (.aload_n 0, 1) := by decide +kernel
theorem d_Wr_write_128 : decode c_Wr_write 128 = .ok (.lload_n 1, 1) := by decide +kernel
theorem d_Wr_write_129 : decode c_Wr_write 129 = .ok (.bipush 16, 2) := by decide +kernel
theorem d_Wr_write_131 : decode c_Wr_write 131 = .ok (.aload_n 3, 1) := by decide +kernel
theorem d_Wr_write_132 : decode c_Wr_write 132 = .ok (.invokevirtual 46, 3) := by decide +kernel
theorem d_Wr_write_135 : decode c_Wr_write 135 = .ok (.goto 9, 3) := by decide +kernel
theorem d_Wr_write_138 : decode c_Wr_write 138 = .ok (.aload_n 0, 1) := by decide +kernel
theorem d_Wr_write_139 : decode c_Wr_write 139 = .ok (.lload_n 1, 1) := by decide +kernel
theorem d_Wr_write_140 : decode c_Wr_write 140 = .ok (.aload_n 3, 1) := by decide +kernel
theorem d_Wr_write_141 : decode c_Wr_write 141 = .ok (.invokevirtual 50, 3) := by decide +kernel
theorem d_Wr_write_144 : decode c_Wr_write 144 = .ok (.aload_n 3, 1) := by decide +kernel
theorem d_Wr_write_145 : decode c_Wr_write 145 = .ok (.getfield 53, 3) := by decide +kernel
theorem d_Wr_write_148 : decode c_Wr_write 148 = .ok (.ifCond .eq 10, 3) := by decide +kernel
theorem d_Wr_write_151 : decode c_Wr_write 151 = .ok (.aload_n 0, 1) := by decide +kernel
theorem d_Wr_write_152 : decode c_Wr_write 152 = .ok (.getfield 14, 3) := by decide +kernel
theorem d_Wr_write_155 : decode c_Wr_write 155 = .ok (.invokevirtual 57, 3) := by decide +kernel
theorem d_Wr_write_158 : decode c_Wr_write 158 = .ok (.return_, 1) := by decide +kernel
theorem d_Wr_writeLetter_0 : decode c_Wr_writeLetter 0 = .ok (.lload_n 1, 1) := by decide +kernel
theorem d_Wr_writeLetter_1 : decode c_Wr_writeLetter 1 = .ok (.ldc2_w 60, 3) := by decide +kernel
theorem d_Wr_writeLetter_4 : decode c_Wr_writeLetter 4 = .ok (.land, 1) := by decide +kernel
theorem d_Wr_writeLetter_5 : decode c_Wr_writeLetter 5 = .ok (.l2i, 1) := by decide +kernel
theorem d_Wr_writeLetter_6 : decode c_Wr_writeLetter 6 = .ok (.istore_n 3, 1) := by decide +kernel
theorem d_Wr_writeLetter_7 : decode c_Wr_writeLetter 7 = .ok (.aload_n 0, 1) := by decide +kernel
theorem d_Wr_writeLetter_8 : decode c_Wr_writeLetter 8 = .ok (.getfield 14, 3) := by decide +kernel
theorem d_Wr_writeLetter_11 : decode c_Wr_writeLetter 11 = .ok (.iload_n 3, 1) := by decide +kernel
theorem d_Wr_writeLetter_12 : decode c_Wr_writeLetter 12 = .ok (.invokestatic 62, 3) := by decide +kernel
theorem d_Wr_writeLetter_15 : decode c_Wr_writeLetter 15 = .ok (.ifCond .eq 8, 3) := by decide +kernel
theorem d_Wr_writeLetter_18 : decode c_Wr_writeLetter 18 = .ok (.bipush 63, 2) := by decide +kernel
theorem d_Wr_writeLetter_20 : decode c_Wr_writeLetter 20 = .ok (.goto 4, 3) := by decide +kernel
theorem d_Wr_writeLetter_23 : decode c_Wr_writeLetter 23 = .ok (.iload_n 3, 1) := by decide +kernel
theorem d_Wr_writeLetter_24 : decode c_Wr_writeLetter 24 = .ok (.invokevirtual 34, 3) := by decide +kernel
theorem d_Wr_writeLetter_27 : decode c_Wr_writeLetter 27 = .ok (.return_, 1) := by decide +kernel
theorem d_Wr_writeSigned_0 : decode c_Wr_writeSigned 0 = .ok (.aload_n 0, 1) := by decide +kernel
theorem d_Wr_writeSigned_1 : decode c_Wr_writeSigned 1 = .ok (.getfield 14, 3) := by decide +kernel
theorem d_Wr_writeSigned_4 : decode c_Wr_writeSigned 4 = .ok (.lload_n 1, 1) := by decide +kernel
theorem d_Wr_writeSigned_5 : decode c_Wr_writeSigned 5 = .ok (.lconst 0, 1) := by decide +kernel
theorem d_Wr_writeSigned_6 : decode c_Wr_writeSigned 6 = .ok (.lcmp, 1) := by decide +kernel
theorem d_Wr_writeSigned_7 : decode c_Wr_writeSigned 7 = .ok (.ifCond .ge 7, 3) := by decide +kernel
theorem d_Wr_writeSigned_10 : decode c_Wr_writeSigned 10 = .ok (.iconst 1, 1) := by decide +kernel
theorem d_Wr_writeSigned_11 : decode c_Wr_writeSigned 11 = .ok (.goto 4, 3) := by decide +kernel
theorem d_Wr_writeSigned_14 : decode c_Wr_writeSigned 14 = .ok (.iconst 0, 1) := by decide +kernel
theorem d_Wr_writeSigned_15 : decode c_Wr_writeSigned 15 = .ok (.aload_n 3, 1) := by decide +kernel
theorem d_Wr_writeSigned_16 : decode c_Wr_writeSigned 16 = .ok (.invokevirtual 68, 3) := by decide +kernel
theorem d_Wr_writeSigned_19 : decode c_Wr_writeSigned 19 = .ok (.aload_n 0, 1) := by decide +kernel
theorem d_Wr_writeSigned_20 : decode c_Wr_writeSigned 20 = .ok (.lload_n 1, 1) := by decide +kernel
theorem d_Wr_writeSigned_21 : decode c_Wr_writeSigned 21 = .ok (.lconst 0, 1) := by decide +kernel
theorem d_Wr_writeSigned_22 : decode c_Wr_writeSigned 22 = .ok (.lcmp, 1) := by decide +kernel
theorem d_Wr_writeSigned_23 : decode c_Wr_writeSigned 23 = .ok (.ifCond .ge 8, 3) := by decide +kernel
theorem d_Wr_writeSigned_26 : decode c_Wr_writeSigned 26 = .ok (.lload_n 1, 1) := by decide +kernel
theorem d_Wr_writeSigned_27 : decode c_Wr_writeSigned 27 = .ok (.lneg, 1) := by decide +kernel
theorem d_Wr_writeSigned_28 : decode c_Wr_writeSigned 28 = .ok (.goto 4, 3) := by decide +kernel
theorem d_Wr_writeSigned_31 : decode c_Wr_writeSigned 31 = .ok (.lload_n 1, 1) := by decide +kernel
theorem d_Wr_writeSigned_32 : decode c_Wr_writeSigned 32 = .ok (.bipush 10, 2) := by decide +kernel
theorem d_Wr_writeSigned_34 : decode c_Wr_writeSigned 34 = .ok (.aload_n 3, 1) := by decide +kernel
theorem d_Wr_writeSigned_35 : decode c_Wr_writeSigned 35 = .ok (.invokevirtual 72, 3) := by decide +kernel
theorem d_Wr_writeSigned_38 : decode c_Wr_writeSigned 38 = .ok (.return_, 1) := by decide +kernel
theorem d_Wr_writeUnsigned_0 : decode c_Wr_writeUnsigned 0 = .ok (.iload_n 3, 1) := by decide +kernel
theorem d_Wr_writeUnsigned_1 : decode c_Wr_writeUnsigned 1 = .ok (.bipush 16, 2) := by decide +kernel
theorem d_Wr_writeUnsigned_3 : decode c_Wr_writeUnsigned 3 = .ok (.if_icmp .ne 26, 3) := by decide +kernel
theorem d_Wr_writeUnsigned_6 : decode c_Wr_writeUnsigned 6 = .ok (.aload 4, 2) := by decide +kernel
theorem d_Wr_writeUnsigned_8 : decode c_Wr_writeUnsigned 8 = .ok (.getfield 75, 3) := by decide +kernel
theorem d_Wr_writeUnsigned_11 : decode c_Wr_writeUnsigned 11 = .ok (.ifCond .eq 18, 3) := by decide +kernel
theorem d_Wr_writeUnsigned_14 : decode c_Wr_writeUnsigned 14 = .ok (.lload_n 1, 1) := by decide +kernel
theorem d_Wr_writeUnsigned_15 : decode c_Wr_writeUnsigned 15 = .ok (.lconst 0, 1) := by decide +kernel
theorem d_Wr_writeUnsigned_16 : decode c_Wr_writeUnsigned 16 = .ok (.lcmp, 1) := by decide +kernel
theorem d_Wr_writeUnsigned_17 : decode c_Wr_writeUnsigned 17 = .ok (.ifCond .eq 12, 3) := by decide +kernel
theorem d_Wr_writeUnsigned_20 : decode c_Wr_writeUnsigned 20 = .ok (.aload_n 0, 1) := by decide +kernel
theorem d_Wr_writeUnsigned_21 : decode c_Wr_writeUnsigned 21 = .ok (.getfield 14, 3) := by decide +kernel
theorem d_Wr_writeUnsigned_24 : decode c_Wr_writeUnsigned 24 = .ok (.ldc 78, 2) := by decide +kernel
theorem d_Wr_writeUnsigned_26 : decode c_Wr_writeUnsigned 26 = .ok (.invokevirtual 80, 3) := by decide +kernel
theorem d_Wr_writeUnsigned_29 : decode c_Wr_writeUnsigned 29 = .ok (.aload_n 0, 1) := by decide +kernel
theorem d_Wr_writeUnsigned_30 : decode c_Wr_writeUnsigned 30 = .ok (.lload_n 1, 1) := by decide +kernel
theorem d_Wr_writeUnsigned_31 : decode c_Wr_writeUnsigned 31 = .ok (.iload_n 3, 1) := by decide +kernel
theorem d_Wr_writeUnsigned_32 : decode c_Wr_writeUnsigned 32 = .ok (.aload 4, 2) := by decide +kernel
theorem d_Wr_writeUnsigned_34 : decode c_Wr_writeUnsigned 34 = .ok (.invokevirtual 72, 3) := by decide +kernel
theorem d_Wr_writeUnsigned_37 : decode c_Wr_writeUnsigned 37 = .ok (.return_, 1) := by decide +kernel
theorem d_Wr_writeDigits_0 : decode c_Wr_writeDigits 0 = .ok (.aload 4, 2) := by decide +kernel
theorem d_Wr_writeDigits_2 : decode c_Wr_writeDigits 2 = .ok (.getfield 84, 3) := by decide +kernel
theorem d_Wr_writeDigits_5 : decode c_Wr_writeDigits 5 = .ok (.iconst (-1), 1) := by decide +kernel
theorem d_Wr_writeDigits_6 : decode c_Wr_writeDigits 6 = .ok (.if_icmp .ne 10, 3) := by decide +kernel
theorem d_Wr_writeDigits_9 : decode c_Wr_writeDigits 9 = .ok (.aload_n 0, 1) := by decide +kernel
theorem d_Wr_writeDigits_10 : decode c_Wr_writeDigits 10 = .ok (.getfield 14, 3) := by decide +kernel
theorem d_Wr_writeDigits_13 : decode c_Wr_writeDigits 13 = .ok (.invokevirtual 87, 3) := by decide +kernel
theorem d_Wr_writeDigits_16 : decode c_Wr_writeDigits 16 = .ok (.lload_n 1, 1) := by decide +kernel
theorem d_Wr_writeDigits_17 : decode c_Wr_writeDigits 17 = .ok (.iload_n 3, 1) := by decide +kernel
theorem d_Wr_writeDigits_18 : decode c_Wr_writeDigits 18 = .ok (.invokestatic 90, 3) := by decide +kernel
theorem d_Wr_writeDigits_21 : decode c_Wr_writeDigits 21 = .ok (.istore 5, 2) := by decide +kernel
theorem d_Wr_writeDigits_23 : decode c_Wr_writeDigits 23 = .ok (.iload 5, 2) := by decide +kernel
theorem d_Wr_writeDigits_25 : decode c_Wr_writeDigits 25 = .ok (.aload 4, 2) := by decide +kernel
theorem d_Wr_writeDigits_27 : decode c_Wr_writeDigits 27 = .ok (.getfield 84, 3) := by decide +kernel
theorem d_Wr_writeDigits_30 : decode c_Wr_writeDigits 30 = .ok (.iconst (-1), 1) := by decide +kernel
theorem d_Wr_writeDigits_31 : decode c_Wr_writeDigits 31 = .ok (.if_icmp .ne 7, 3) := by decide +kernel
theorem d_Wr_writeDigits_34 : decode c_Wr_writeDigits 34 = .ok (.iconst 1, 1) := by decide +kernel
theorem d_Wr_writeDigits_35 : decode c_Wr_writeDigits 35 = .ok (.goto 8, 3) := by decide +kernel
theorem d_Wr_writeDigits_38 : decode c_Wr_writeDigits 38 = .ok (.aload 4, 2) := by decide +kernel
theorem d_Wr_writeDigits_40 : decode c_Wr_writeDigits 40 = .ok (.getfield 84, 3) := by decide +kernel
theorem d_Wr_writeDigits_43 : decode c_Wr_writeDigits 43 = .ok (.invokestatic 94, 3) := by decide +kernel
theorem d_Wr_writeDigits_46 : decode c_Wr_writeDigits 46 = .ok (.istore 6, 2) := by decide +kernel
theorem d_Wr_writeDigits_48 : decode c_Wr_writeDigits 48 = .ok (.iload_n 3, 1) := by decide +kernel
theorem d_Wr_writeDigits_49 : decode c_Wr_writeDigits 49 = .ok (.bipush 8, 2) := by decide +kernel
theorem d_Wr_writeDigits_51 : decode c_Wr_writeDigits 51 = .ok (.if_icmp .ne 21, 3) := by decide +kernel
theorem d_Wr_writeDigits_54 : decode c_Wr_writeDigits 54 = .ok (.aload 4, 2) := by decide +kernel
theorem d_Wr_writeDigits_56 : decode c_Wr_writeDigits 56 = .ok (.getfield 75, 3) := by decide +kernel
theorem d_Wr_writeDigits_59 : decode c_Wr_writeDigits 59 = .ok (.ifCond .eq 13, 3) := by decide +kernel
theorem d_Wr_writeDigits_62 : decode c_Wr_writeDigits 62 = .ok (.iload 6, 2) := by decide +kernel
theorem d_Wr_writeDigits_64 : decode c_Wr_writeDigits 64 = .ok (.iload 5, 2) := by decide +kernel
theorem d_Wr_writeDigits_66 : decode c_Wr_writeDigits 66 = .ok (.if_icmp .ne 6, 3) := by decide +kernel
theorem d_Wr_writeDigits_69 : decode c_Wr_writeDigits 69 = .ok (.iinc 6 1, 3) := by decide +kernel
theorem d_Wr_writeDigits_72 : decode c_Wr_writeDigits 72 = .ok (.aload_n 0, 1) := by decide +kernel
theorem d_Wr_writeDigits_73 : decode c_Wr_writeDigits 73 = .ok (.getfield 14, 3) := by decide +kernel
theorem d_Wr_writeDigits_76 : decode c_Wr_writeDigits 76 = .ok (.lload_n 1, 1) := by decide +kernel
theorem d_Wr_writeDigits_77 : decode c_Wr_writeDigits 77 = .ok (.iload_n 3, 1) := by decide +kernel
theorem d_Wr_writeDigits_78 : decode c_Wr_writeDigits 78 = .ok (.iload 6, 2) := by decide +kernel
theorem d_Wr_writeDigits_80 : decode c_Wr_writeDigits 80 = .ok (.invokevirtual 100, 3) := by decide +kernel
theorem d_Wr_writeDigits_83 : decode c_Wr_writeDigits 83 = .ok (.return_, 1) := by decide +kernel
theorem d_Wr_writeFloating_0 : decode c_Wr_writeFloating 0 = .ok (.lload_n 1, 1) := by decide +kernel
theorem d_Wr_writeFloating_1 : decode c_Wr_writeFloating 1 = .ok (.bipush 52, 2) := by decide +kernel
theorem d_Wr_writeFloating_3 : decode c_Wr_writeFloating 3 = .ok (.lushr, 1) := by decide +kernel
theorem d_Wr_writeFloating_4 : decode c_Wr_writeFloating 4 = .ok (.l2i, 1) := by decide +kernel
theorem d_Wr_writeFloating_5 : decode c_Wr_writeFloating 5 = .ok (.sipush 2047, 3) := by decide +kernel
theorem d_Wr_writeFloating_8 : decode c_Wr_writeFloating 8 = .ok (.iand, 1) := by decide +kernel
theorem d_Wr_writeFloating_9 : decode c_Wr_writeFloating 9 = .ok (.istore 4, 2) := by decide +kernel
theorem d_Wr_writeFloating_11 : decode c_Wr_writeFloating 11 = .ok (.lload_n 1, 1) := by decide +kernel
theorem d_Wr_writeFloating_12 : decode c_Wr_writeFloating 12 = .ok (.ldc2_w 104, 3) := by decide +kernel
theorem d_Wr_writeFloating_15 : decode c_Wr_writeFloating 15 = .ok (.land, 1) := by decide +kernel
theorem d_Wr_writeFloating_16 : decode c_Wr_writeFloating 16 = .ok (.lstore 5, 2) := by decide +kernel
theorem d_Wr_writeFloating_18 : decode c_Wr_writeFloating 18 = .ok (.aload_n 0, 1) := by decide +kernel
theorem d_Wr_writeFloating_19 : decode c_Wr_writeFloating 19 = .ok (.getfield 14, 3) := by decide +kernel
theorem d_Wr_writeFloating_22 : decode c_Wr_writeFloating 22 = .ok (.lload_n 1, 1) := by decide +kernel
theorem d_Wr_writeFloating_23 : decode c_Wr_writeFloating 23 = .ok (.lconst 0, 1) := by decide +kernel
theorem d_Wr_writeFloating_24 : decode c_Wr_writeFloating 24 = .ok (.lcmp, 1) := by decide +kernel
theorem d_Wr_writeFloating_25 : decode c_Wr_writeFloating 25 = .ok (.ifCond .ge 7, 3) := by decide +kernel
theorem d_Wr_writeFloating_28 : decode c_Wr_writeFloating 28 = .ok (.iconst 1, 1) := by decide +kernel
theorem d_Wr_writeFloating_29 : decode c_Wr_writeFloating 29 = .ok (.goto 4, 3) := by decide +kernel
theorem d_Wr_writeFloating_32 : decode c_Wr_writeFloating 32 = .ok (.iconst 0, 1) := by decide +kernel
theorem d_Wr_writeFloating_33 : decode c_Wr_writeFloating 33 = .ok (.aload_n 3, 1) := by decide +kernel
theorem d_Wr_writeFloating_34 : decode c_Wr_writeFloating 34 = .ok (.invokevirtual 68, 3) := by decide +kernel
theorem d_Wr_writeFloating_37 : decode c_Wr_writeFloating 37 = .ok (.iload 4, 2) := by decide +kernel
theorem d_Wr_writeFloating_39 : decode c_Wr_writeFloating 39 = .ok (.sipush 2047, 3) := by decide +kernel
theorem d_Wr_writeFloating_42 : decode c_Wr_writeFloating 42 = .ok (.if_icmp .ne 25, 3) := by decide +kernel
theorem d_Wr_writeFloating_45 : decode c_Wr_writeFloating 45 = .ok (.aload_n 0, 1) := by decide +kernel
theorem d_Wr_writeFloating_46 : decode c_Wr_writeFloating 46 = .ok (.getfield 14, 3) := by decide +kernel
theorem d_Wr_writeFloating_49 : decode c_Wr_writeFloating 49 = .ok (.lload 5, 2) := by decide +kernel
theorem d_Wr_writeFloating_51 : decode c_Wr_writeFloating 51 = .ok (.lconst 0, 1) := by decide +kernel
theorem d_Wr_writeFloating_52 : decode c_Wr_writeFloating 52 = .ok (.lcmp, 1) := by decide +kernel
theorem d_Wr_writeFloating_53 : decode c_Wr_writeFloating 53 = .ok (.ifCond .ne 8, 3) := by decide +kernel
theorem d_Wr_writeFloating_56 : decode c_Wr_writeFloating 56 = .ok (.ldc 106, 2) := by decide +kernel
theorem d_Wr_writeFloating_58 : decode c_Wr_writeFloating 58 = .ok (.goto 5, 3) := by decide +kernel
theorem d_Wr_writeFloating_61 : decode c_Wr_writeFloating 61 = .ok (.ldc 108, 2) := by decide +kernel
theorem d_Wr_writeFloating_63 : decode c_Wr_writeFloating 63 = .ok (.invokevirtual 80, 3) := by decide +kernel
theorem d_Wr_writeFloating_66 : decode c_Wr_writeFloating 66 = .ok (.return_, 1) := by decide +kernel
theorem d_Wr_writeFloating_67 : decode c_Wr_writeFloating 67 = .ok (.iload 4, 2) := by decide +kernel
theorem d_Wr_writeFloating_69 : decode c_Wr_writeFloating 69 = .ok (.ifCond .ne 8, 3) := by decide +kernel
theorem d_Wr_writeFloating_72 : decode c_Wr_writeFloating 72 = .ok (.lload 5, 2) := by decide +kernel
theorem d_Wr_writeFloating_74 : decode c_Wr_writeFloating 74 = .ok (.goto 9, 3) := by decide +kernel
theorem d_Wr_writeFloating_77 : decode c_Wr_writeFloating 77 = .ok (.lload 5, 2) := by decide +kernel
theorem d_Wr_writeFloating_79 : decode c_Wr_writeFloating 79 = .ok (.ldc2_w 110, 3) := by decide +kernel
theorem d_Wr_writeFloating_82 : decode c_Wr_writeFloating 82 = .ok (.lor, 1) := by decide +kernel
theorem d_Wr_writeFloating_83 : decode c_Wr_writeFloating 83 = .ok (.lstore 7, 2) := by decide +kernel
theorem d_Wr_writeFloating_85 : decode c_Wr_writeFloating 85 = .ok (.iload 4, 2) := by decide +kernel
theorem d_Wr_writeFloating_87 : decode c_Wr_writeFloating 87 = .ok (.iconst 1, 1) := by decide +kernel
theorem d_Wr_writeFloating_88 : decode c_Wr_writeFloating 88 = .ok (.invokestatic 94, 3) := by decide +kernel
theorem d_Wr_writeFloating_91 : decode c_Wr_writeFloating 91 = .ok (.sipush 1023, 3) := by decide +kernel
theorem d_Wr_writeFloating_94 : decode c_Wr_writeFloating 94 = .ok (.isub, 1) := by decide +kernel
theorem d_Wr_writeFloating_95 : decode c_Wr_writeFloating 95 = .ok (.istore 9, 2) := by decide +kernel
theorem d_Wr_writeFloating_97 : decode c_Wr_writeFloating 97 = .ok (.aload_n 3, 1) := by decide +kernel
theorem d_Wr_writeFloating_98 : decode c_Wr_writeFloating 98 = .ok (.getfield 28, 3) := by decide +kernel
theorem d_Wr_writeFloating_101 : decode c_Wr_writeFloating 101 = .ok (.bipush 97, 2) := by decide +kernel
theorem d_Wr_writeFloating_103 : decode c_Wr_writeFloating 103 = .ok (.if_icmp .ne 15, 3) := by decide +kernel
theorem d_Wr_writeFloating_106 : decode c_Wr_writeFloating 106 = .ok (.aload_n 0, 1) := by decide +kernel
theorem d_Wr_writeFloating_107 : decode c_Wr_writeFloating 107 = .ok (.lload 7, 2) := by decide +kernel
theorem d_Wr_writeFloating_109 : decode c_Wr_writeFloating 109 = .ok (.iload 9, 2) := by decide +kernel
theorem d_Wr_writeFloating_111 : decode c_Wr_writeFloating 111 = .ok (.aload_n 3, 1) := by decide +kernel
theorem d_Wr_writeFloating_112 : decode c_Wr_writeFloating 112 = .ok (.invokevirtual 112, 3) := by decide +kernel
theorem d_Wr_writeFloating_115 : decode c_Wr_writeFloating 115 = .ok (.goto 22, 3) := by decide +kernel
theorem d_Wr_writeFloating_118 : decode c_Wr_writeFloating 118 = .ok (.aload_n 0, 1) := by decide +kernel
theorem d_Wr_writeFloating_119 : decode c_Wr_writeFloating 119 = .ok (.getfield 21, 3) := by decide +kernel
theorem d_Wr_writeFloating_122 : decode c_Wr_writeFloating 122 = .ok (.lload 7, 2) := by decide +kernel
theorem d_Wr_writeFloating_124 : decode c_Wr_writeFloating 124 = .ok (.iload 9, 2) := by decide +kernel
theorem d_Wr_writeFloating_126 : decode c_Wr_writeFloating 126 = .ok (.bipush 52, 2) := by decide +kernel
theorem d_Wr_writeFloating_128 : decode c_Wr_writeFloating 128 = .ok (.isub, 1) := by decide +kernel
theorem d_Wr_writeFloating_129 : decode c_Wr_writeFloating 129 = .ok (.invokevirtual 115, 3) := by decide +kernel
theorem d_Wr_writeFloating_132 : decode c_Wr_writeFloating 132 = .ok (.aload_n 0, 1) := by decide +kernel
theorem d_Wr_writeFloating_133 : decode c_Wr_writeFloating 133 = .ok (.aload_n 3, 1) := by decide +kernel
theorem d_Wr_writeFloating_134 : decode c_Wr_writeFloating 134 = .ok (.invokevirtual 119, 3) := by decide +kernel
theorem d_Wr_writeFloating_137 : decode c_Wr_writeFloating 137 = .ok (.return_, 1) := by decide +kernel
theorem d_Wr_writeDecimal_0 : decode c_Wr_writeDecimal 0 = .ok (.aload_n 1, 1) := by decide +kernel
theorem d_Wr_writeDecimal_1 : decode c_Wr_writeDecimal 1 = .ok (.invokestatic 123, 3) := by decide +kernel
theorem d_Wr_writeDecimal_4 : decode c_Wr_writeDecimal 4 = .ok (.istore_n 2, 1) := by decide +kernel
theorem d_Wr_writeDecimal_5 : decode c_Wr_writeDecimal 5 = .ok (.iload_n 2, 1) := by decide +kernel
theorem d_Wr_writeDecimal_6 : decode c_Wr_writeDecimal 6 = .ok (.istore_n 3, 1) := by decide +kernel
theorem d_Wr_writeDecimal_7 : decode c_Wr_writeDecimal 7 = .ok (.aload_n 1, 1) := by decide +kernel
theorem d_Wr_writeDecimal_8 : decode c_Wr_writeDecimal 8 = .ok (.getfield 28, 3) := by decide +kernel
theorem d_Wr_writeDecimal_11 : decode c_Wr_writeDecimal 11 = .ok (.bipush 102, 2) := by decide +kernel
theorem d_Wr_writeDecimal_13 : decode c_Wr_writeDecimal 13 = .ok (.if_icmp .ne 7, 3) := by decide +kernel
theorem d_Wr_writeDecimal_16 : decode c_Wr_writeDecimal 16 = .ok (.iconst 1, 1) := by decide +kernel
theorem d_Wr_writeDecimal_17 : decode c_Wr_writeDecimal 17 = .ok (.goto 4, 3) := by decide +kernel
theorem d_Wr_writeDecimal_20 : decode c_Wr_writeDecimal 20 = .ok (.iconst 0, 1) := by decide +kernel
theorem d_Wr_writeDecimal_21 : decode c_Wr_writeDecimal 21 = .ok (.istore 4, 2) := by decide +kernel
theorem d_Wr_writeDecimal_23 : decode c_Wr_writeDecimal 23 = .ok (.iload 4, 2) := by decide +kernel
theorem d_Wr_writeDecimal_25 : decode c_Wr_writeDecimal 25 = .ok (.ifCond .eq 22, 3) := by decide +kernel
theorem d_Wr_writeDecimal_28 : decode c_Wr_writeDecimal 28 = .ok (.aload_n 0, 1) := by decide +kernel
theorem d_Wr_writeDecimal_29 : decode c_Wr_writeDecimal 29 = .ok (.getfield 21, 3) := by decide +kernel
theorem d_Wr_writeDecimal_32 : decode c_Wr_writeDecimal 32 = .ok (.aload_n 0, 1) := by decide +kernel
theorem d_Wr_writeDecimal_33 : decode c_Wr_writeDecimal 33 = .ok (.getfield 21, 3) := by decide +kernel
theorem d_Wr_writeDecimal_36 : decode c_Wr_writeDecimal 36 = .ok (.getfield 127, 3) := by decide +kernel
theorem d_Wr_writeDecimal_39 : decode c_Wr_writeDecimal 39 = .ok (.iload_n 2, 1) := by decide +kernel
theorem d_Wr_writeDecimal_40 : decode c_Wr_writeDecimal 40 = .ok (.iadd, 1) := by decide +kernel
theorem d_Wr_writeDecimal_41 : decode c_Wr_writeDecimal 41 = .ok (.invokevirtual 130, 3) := by decide +kernel
theorem d_Wr_writeDecimal_44 : decode c_Wr_writeDecimal 44 = .ok (.goto 121, 3) := by decide +kernel
theorem d_Wr_writeDecimal_47 : decode c_Wr_writeDecimal 47 = .ok (.aload_n 1, 1) := by decide +kernel
theorem d_Wr_writeDecimal_48 : decode c_Wr_writeDecimal 48 = .ok (.getfield 28, 3) := by decide +kernel
theorem d_Wr_writeDecimal_51 : decode c_Wr_writeDecimal 51 = .ok (.bipush 101, 2) := by decide +kernel
theorem d_Wr_writeDecimal_53 : decode c_Wr_writeDecimal 53 = .ok (.if_icmp .ne 16, 3) := by decide +kernel
theorem d_Wr_writeDecimal_56 : decode c_Wr_writeDecimal 56 = .ok (.aload_n 0, 1) := by decide +kernel
theorem d_Wr_writeDecimal_57 : decode c_Wr_writeDecimal 57 = .ok (.getfield 21, 3) := by decide +kernel
theorem d_Wr_writeDecimal_60 : decode c_Wr_writeDecimal 60 = .ok (.iload_n 2, 1) := by decide +kernel
theorem d_Wr_writeDecimal_61 : decode c_Wr_writeDecimal 61 = .ok (.iconst 1, 1) := by decide +kernel
theorem d_Wr_writeDecimal_62 : decode c_Wr_writeDecimal 62 = .ok (.iadd, 1) := by decide +kernel
theorem d_Wr_writeDecimal_63 : decode c_Wr_writeDecimal 63 = .ok (.invokevirtual 130, 3) := by decide +kernel
theorem d_Wr_writeDecimal_66 : decode c_Wr_writeDecimal 66 = .ok (.goto 99, 3) := by decide +kernel
theorem d_Wr_writeDecimal_69 : decode c_Wr_writeDecimal 69 = .ok (.aload_n 0, 1) := by decide +kernel
theorem d_Wr_writeDecimal_70 : decode c_Wr_writeDecimal 70 = .ok (.getfield 21, 3) := by decide +kernel
theorem d_Wr_writeDecimal_73 : decode c_Wr_writeDecimal 73 = .ok (.iload_n 2, 1) := by decide +kernel
theorem d_Wr_writeDecimal_74 : decode c_Wr_writeDecimal 74 = .ok (.invokevirtual 130, 3) := by decide +kernel
theorem d_Wr_writeDecimal_77 : decode c_Wr_writeDecimal 77 = .ok (.aload_n 0, 1) := by decide +kernel
theorem d_Wr_writeDecimal_78 : decode c_Wr_writeDecimal 78 = .ok (.getfield 21, 3) := by decide +kernel
theorem d_Wr_writeDecimal_81 : decode c_Wr_writeDecimal 81 = .ok (.getfield 127, 3) := by decide +kernel
theorem d_Wr_writeDecimal_84 : decode c_Wr_writeDecimal 84 = .ok (.iconst 1, 1) := by decide +kernel
theorem d_Wr_writeDecimal_85 : decode c_Wr_writeDecimal 85 = .ok (.isub, 1) := by decide +kernel
theorem d_Wr_writeDecimal_86 : decode c_Wr_writeDecimal 86 = .ok (.bipush (-4), 2) := by decide +kernel
theorem d_Wr_writeDecimal_88 : decode c_Wr_writeDecimal 88 = .ok (.if_icmp .lt 20, 3) := by decide +kernel
theorem d_Wr_writeDecimal_91 : decode c_Wr_writeDecimal 91 = .ok (.aload_n 0, 1) := by decide +kernel
theorem d_Wr_writeDecimal_92 : decode c_Wr_writeDecimal 92 = .ok (.getfield 21, 3) := by decide +kernel
theorem d_Wr_writeDecimal_95 : decode c_Wr_writeDecimal 95 = .ok (.getfield 127, 3) := by decide +kernel
theorem d_Wr_writeDecimal_98 : decode c_Wr_writeDecimal 98 = .ok (.iconst 1, 1) := by decide +kernel
theorem d_Wr_writeDecimal_99 : decode c_Wr_writeDecimal 99 = .ok (.isub, 1) := by decide +kernel
theorem d_Wr_writeDecimal_100 : decode c_Wr_writeDecimal 100 = .ok (.iload_n 2, 1) := by decide +kernel
theorem d_Wr_writeDecimal_101 : decode c_Wr_writeDecimal 101 = .ok (.if_icmp .ge 7, 3) := by decide +kernel
theorem d_Wr_writeDecimal_104 : decode c_Wr_writeDecimal 104 = .ok (.iconst 1, 1) := by decide +kernel
theorem d_Wr_writeDecimal_105 : decode c_Wr_writeDecimal 105 = .ok (.goto 4, 3) := by decide +kernel
theorem d_Wr_writeDecimal_108 : decode c_Wr_writeDecimal 108 = .ok (.iconst 0, 1) := by decide +kernel
theorem d_Wr_writeDecimal_109 : decode c_Wr_writeDecimal 109 = .ok (.istore 4, 2) := by decide +kernel
theorem d_Wr_writeDecimal_111 : decode c_Wr_writeDecimal 111 = .ok (.iload_n 2, 1) := by decide +kernel
theorem d_Wr_writeDecimal_112 : decode c_Wr_writeDecimal 112 = .ok (.iload 4, 2) := by decide +kernel
theorem d_Wr_writeDecimal_114 : decode c_Wr_writeDecimal 114 = .ok (.ifCond .eq 13, 3) := by decide +kernel
theorem d_Wr_writeDecimal_117 : decode c_Wr_writeDecimal 117 = .ok (.aload_n 0, 1) := by decide +kernel
theorem d_Wr_writeDecimal_118 : decode c_Wr_writeDecimal 118 = .ok (.getfield 21, 3) := by decide +kernel
theorem d_Wr_writeDecimal_121 : decode c_Wr_writeDecimal 121 = .ok (.getfield 127, 3) := by decide +kernel
theorem d_Wr_writeDecimal_124 : decode c_Wr_writeDecimal 124 = .ok (.goto 4, 3) := by decide +kernel
theorem d_Wr_writeDecimal_127 : decode c_Wr_writeDecimal 127 = .ok (.iconst 1, 1) := by decide +kernel
theorem d_Wr_writeDecimal_128 : decode c_Wr_writeDecimal 128 = .ok (.isub, 1) := by decide +kernel
theorem d_Wr_writeDecimal_129 : decode c_Wr_writeDecimal 129 = .ok (.istore_n 3, 1) := by decide +kernel
theorem d_Wr_writeDecimal_130 : decode c_Wr_writeDecimal 130 = .ok (.aload_n 1, 1) := by decide +kernel
theorem d_Wr_writeDecimal_131 : decode c_Wr_writeDecimal 131 = .ok (.getfield 75, 3) := by decide +kernel
theorem d_Wr_writeDecimal_134 : decode c_Wr_writeDecimal 134 = .ok (.ifCond .ne 31, 3) := by decide +kernel
theorem d_Wr_writeDecimal_137 : decode c_Wr_writeDecimal 137 = .ok (.iload_n 3, 1) := by decide +kernel
theorem d_Wr_writeDecimal_138 : decode c_Wr_writeDecimal 138 = .ok (.aload_n 0, 1) := by decide +kernel
theorem d_Wr_writeDecimal_139 : decode c_Wr_writeDecimal 139 = .ok (.getfield 21, 3) := by decide +kernel
theorem d_Wr_writeDecimal_142 : decode c_Wr_writeDecimal 142 = .ok (.iload 4, 2) := by decide +kernel
theorem d_Wr_writeDecimal_144 : decode c_Wr_writeDecimal 144 = .ok (.ifCond .eq 13, 3) := by decide +kernel
theorem d_Wr_writeDecimal_147 : decode c_Wr_writeDecimal 147 = .ok (.aload_n 0, 1) := by decide +kernel
theorem d_Wr_writeDecimal_148 : decode c_Wr_writeDecimal 148 = .ok (.getfield 21, 3) := by decide +kernel
theorem d_Wr_writeDecimal_151 : decode c_Wr_writeDecimal 151 = .ok (.getfield 127, 3) := by decide +kernel
theorem d_Wr_writeDecimal_154 : decode c_Wr_writeDecimal 154 = .ok (.goto 4, 3) := by decide +kernel
theorem d_Wr_writeDecimal_157 : decode c_Wr_writeDecimal 157 = .ok (.iconst 1, 1) := by decide +kernel
theorem d_Wr_writeDecimal_158 : decode c_Wr_writeDecimal 158 = .ok (.invokevirtual 133, 3) := by decide +kernel
theorem d_Wr_writeDecimal_161 : decode c_Wr_writeDecimal 161 = .ok (.invokestatic 137, 3) := by decide +kernel
theorem d_Wr_writeDecimal_164 : decode c_Wr_writeDecimal 164 = .ok (.istore_n 3, 1) := by decide +kernel
theorem d_Wr_writeDecimal_165 : decode c_Wr_writeDecimal 165 = .ok (.aload_n 0, 1) := by decide +kernel
theorem d_Wr_writeDecimal_166 : decode c_Wr_writeDecimal 166 = .ok (.getfield 14, 3) := by decide +kernel
theorem d_Wr_writeDecimal_169 : decode c_Wr_writeDecimal 169 = .ok (.invokevirtual 87, 3) := by decide +kernel
theorem d_Wr_writeDecimal_172 : decode c_Wr_writeDecimal 172 = .ok (.iload 4, 2) := by decide +kernel
theorem d_Wr_writeDecimal_174 : decode c_Wr_writeDecimal 174 = .ok (.ifCond .eq 22, 3) := by decide +kernel
theorem d_Wr_writeDecimal_177 : decode c_Wr_writeDecimal 177 = .ok (.aload_n 0, 1) := by decide +kernel
theorem d_Wr_writeDecimal_178 : decode c_Wr_writeDecimal 178 = .ok (.aload_n 0, 1) := by decide +kernel
theorem d_Wr_writeDecimal_179 : decode c_Wr_writeDecimal 179 = .ok (.getfield 21, 3) := by decide +kernel
theorem d_Wr_writeDecimal_182 : decode c_Wr_writeDecimal 182 = .ok (.getfield 127, 3) := by decide +kernel
theorem d_Wr_writeDecimal_185 : decode c_Wr_writeDecimal 185 = .ok (.iload_n 3, 1) := by decide +kernel
theorem d_Wr_writeDecimal_186 : decode c_Wr_writeDecimal 186 = .ok (.aload_n 1, 1) := by decide +kernel
theorem d_Wr_writeDecimal_187 : decode c_Wr_writeDecimal 187 = .ok (.getfield 75, 3) := by decide +kernel
theorem d_Wr_writeDecimal_190 : decode c_Wr_writeDecimal 190 = .ok (.invokevirtual 140, 3) := by decide +kernel
theorem d_Wr_writeDecimal_193 : decode c_Wr_writeDecimal 193 = .ok (.goto 36, 3) := by decide +kernel
theorem d_Wr_writeDecimal_196 : decode c_Wr_writeDecimal 196 = .ok (.aload_n 0, 1) := by decide +kernel
theorem d_Wr_writeDecimal_197 : decode c_Wr_writeDecimal 197 = .ok (.iconst 1, 1) := by decide +kernel
theorem d_Wr_writeDecimal_198 : decode c_Wr_writeDecimal 198 = .ok (.iload_n 3, 1) := by decide +kernel
theorem d_Wr_writeDecimal_199 : decode c_Wr_writeDecimal 199 = .ok (.aload_n 1, 1) := by decide +kernel
theorem d_Wr_writeDecimal_200 : decode c_Wr_writeDecimal 200 = .ok (.getfield 75, 3) := by decide +kernel
theorem d_Wr_writeDecimal_203 : decode c_Wr_writeDecimal 203 = .ok (.invokevirtual 140, 3) := by decide +kernel
theorem d_Wr_writeDecimal_206 : decode c_Wr_writeDecimal 206 = .ok (.aload_n 0, 1) := by decide +kernel
theorem d_Wr_writeDecimal_207 : decode c_Wr_writeDecimal 207 = .ok (.getfield 14, 3) := by decide +kernel
theorem d_Wr_writeDecimal_210 : decode c_Wr_writeDecimal 210 = .ok (.bipush 101, 2) := by decide +kernel
theorem d_Wr_writeDecimal_212 : decode c_Wr_writeDecimal 212 = .ok (.invokevirtual 34, 3) := by decide +kernel
theorem d_Wr_writeDecimal_215 : decode c_Wr_writeDecimal 215 = .ok (.aload_n 0, 1) := by decide +kernel
theorem d_Wr_writeDecimal_216 : decode c_Wr_writeDecimal 216 = .ok (.aload_n 0, 1) := by decide +kernel
theorem d_Wr_writeDecimal_217 : decode c_Wr_writeDecimal 217 = .ok (.getfield 21, 3) := by decide +kernel
theorem d_Wr_writeDecimal_220 : decode c_Wr_writeDecimal 220 = .ok (.getfield 127, 3) := by decide +kernel
theorem d_Wr_writeDecimal_223 : decode c_Wr_writeDecimal 223 = .ok (.iconst 1, 1) := by decide +kernel
theorem d_Wr_writeDecimal_224 : decode c_Wr_writeDecimal 224 = .ok (.isub, 1) := by decide +kernel
theorem d_Wr_writeDecimal_225 : decode c_Wr_writeDecimal 225 = .ok (.iconst 1, 1) := by decide +kernel
theorem d_Wr_writeDecimal_226 : decode c_Wr_writeDecimal 226 = .ok (.invokevirtual 144, 3) := by decide +kernel
theorem d_Wr_writeDecimal_229 : decode c_Wr_writeDecimal 229 = .ok (.return_, 1) := by decide +kernel
theorem d_Wr_precisionOf_0 : decode c_Wr_precisionOf 0 = .ok (.aload_n 0, 1) := by decide +kernel
theorem d_Wr_precisionOf_1 : decode c_Wr_precisionOf 1 = .ok (.getfield 84, 3) := by decide +kernel
theorem d_Wr_precisionOf_4 : decode c_Wr_precisionOf 4 = .ok (.iconst (-1), 1) := by decide +kernel
theorem d_Wr_precisionOf_5 : decode c_Wr_precisionOf 5 = .ok (.if_icmp .ne 6, 3) := by decide +kernel
theorem d_Wr_precisionOf_8 : decode c_Wr_precisionOf 8 = .ok (.bipush 6, 2) := by decide +kernel
theorem d_Wr_precisionOf_10 : decode c_Wr_precisionOf 10 = .ok (.ireturn, 1) := by decide +kernel
theorem d_Wr_precisionOf_11 : decode c_Wr_precisionOf 11 = .ok (.aload_n 0, 1) := by decide +kernel
theorem d_Wr_precisionOf_12 : decode c_Wr_precisionOf 12 = .ok (.getfield 28, 3) := by decide +kernel
theorem d_Wr_precisionOf_15 : decode c_Wr_precisionOf 15 = .ok (.bipush 103, 2) := by decide +kernel
theorem d_Wr_precisionOf_17 : decode c_Wr_precisionOf 17 = .ok (.if_icmp .ne 14, 3) := by decide +kernel
theorem d_Wr_precisionOf_20 : decode c_Wr_precisionOf 20 = .ok (.aload_n 0, 1) := by decide +kernel
theorem d_Wr_precisionOf_21 : decode c_Wr_precisionOf 21 = .ok (.getfield 84, 3) := by decide +kernel
theorem d_Wr_precisionOf_24 : decode c_Wr_precisionOf 24 = .ok (.iconst 1, 1) := by decide +kernel
theorem d_Wr_precisionOf_25 : decode c_Wr_precisionOf 25 = .ok (.invokestatic 94, 3) := by decide +kernel
theorem d_Wr_precisionOf_28 : decode c_Wr_precisionOf 28 = .ok (.goto 7, 3) := by decide +kernel
theorem d_Wr_precisionOf_31 : decode c_Wr_precisionOf 31 = .ok (.aload_n 0, 1) := by decide +kernel
theorem d_Wr_precisionOf_32 : decode c_Wr_precisionOf 32 = .ok (.getfield 84, 3) := by decide +kernel
theorem d_Wr_precisionOf_35 : decode c_Wr_precisionOf 35 = .ok (.ireturn, 1) := by decide +kernel
theorem d_Wr_putDigits_0 : decode c_Wr_putDigits 0 = .ok (.iconst 0, 1) := by decide +kernel
theorem d_Wr_putDigits_1 : decode c_Wr_putDigits 1 = .ok (.iload_n 1, 1) := by decide +kernel
theorem d_Wr_putDigits_2 : decode c_Wr_putDigits 2 = .ok (.iconst 1, 1) := by decide +kernel
theorem d_Wr_putDigits_3 : decode c_Wr_putDigits 3 = .ok (.isub, 1) := by decide +kernel
theorem d_Wr_putDigits_4 : decode c_Wr_putDigits 4 = .ok (.invokestatic 137, 3) := by decide +kernel
theorem d_Wr_putDigits_7 : decode c_Wr_putDigits 7 = .ok (.istore 4, 2) := by decide +kernel
theorem d_Wr_putDigits_9 : decode c_Wr_putDigits 9 = .ok (.iload 4, 2) := by decide +kernel
theorem d_Wr_putDigits_11 : decode c_Wr_putDigits 11 = .ok (.iload_n 1, 1) := by decide +kernel
theorem d_Wr_putDigits_12 : decode c_Wr_putDigits 12 = .ok (.if_icmp .ge 28, 3) := by decide +kernel
theorem d_Wr_putDigits_15 : decode c_Wr_putDigits 15 = .ok (.aload_n 0, 1) := by decide +kernel
theorem d_Wr_putDigits_16 : decode c_Wr_putDigits 16 = .ok (.getfield 14, 3) := by decide +kernel
theorem d_Wr_putDigits_19 : decode c_Wr_putDigits 19 = .ok (.bipush 48, 2) := by decide +kernel
theorem d_Wr_putDigits_21 : decode c_Wr_putDigits 21 = .ok (.aload_n 0, 1) := by decide +kernel
theorem d_Wr_putDigits_22 : decode c_Wr_putDigits 22 = .ok (.getfield 21, 3) := by decide +kernel
theorem d_Wr_putDigits_25 : decode c_Wr_putDigits 25 = .ok (.iload 4, 2) := by decide +kernel
theorem d_Wr_putDigits_27 : decode c_Wr_putDigits 27 = .ok (.invokevirtual 148, 3) := by decide +kernel
theorem d_Wr_putDigits_30 : decode c_Wr_putDigits 30 = .ok (.iadd, 1) := by decide +kernel
theorem d_Wr_putDigits_31 : decode c_Wr_putDigits 31 = .ok (.invokevirtual 34, 3) := by decide +kernel
theorem d_Wr_putDigits_34 : decode c_Wr_putDigits 34 = .ok (.iinc 4 1, 3) := by decide +kernel
theorem d_Wr_putDigits_37 : decode c_Wr_putDigits 37 = .ok (.goto (-28), 3) := by decide +kernel
theorem d_Wr_putDigits_40 : decode c_Wr_putDigits 40 = .ok (.aload_n 0, 1) := by decide +kernel
theorem d_Wr_putDigits_41 : decode c_Wr_putDigits 41 = .ok (.iload_n 2, 1) := by decide +kernel
theorem d_Wr_putDigits_42 : decode c_Wr_putDigits 42 = .ok (.iload_n 3, 1) := by decide +kernel
theorem d_Wr_putDigits_43 : decode c_Wr_putDigits 43 = .ok (.invokevirtual 151, 3) := by decide +kernel
theorem d_Wr_putDigits_46 : decode c_Wr_putDigits 46 = .ok (.iconst 0, 1) := by decide +kernel
theorem d_Wr_putDigits_47 : decode c_Wr_putDigits 47 = .ok (.istore 4, 2) := by decide +kernel
theorem d_Wr_putDigits_49 : decode c_Wr_putDigits 49 = .ok (.iload 4, 2) := by decide +kernel
theorem d_Wr_putDigits_51 : decode c_Wr_putDigits 51 = .ok (.iload_n 2, 1) := by decide +kernel
theorem d_Wr_putDigits_52 : decode c_Wr_putDigits 52 = .ok (.if_icmp .ge 30, 3) := by decide +kernel
theorem d_Wr_putDigits_55 : decode c_Wr_putDigits 55 = .ok (.aload_n 0, 1) := by decide +kernel
theorem d_Wr_putDigits_56 : decode c_Wr_putDigits 56 = .ok (.getfield 14, 3) := by decide +kernel
theorem d_Wr_putDigits_59 : decode c_Wr_putDigits 59 = .ok (.bipush 48, 2) := by decide +kernel
theorem d_Wr_putDigits_61 : decode c_Wr_putDigits 61 = .ok (.aload_n 0, 1) := by decide +kernel
theorem d_Wr_putDigits_62 : decode c_Wr_putDigits 62 = .ok (.getfield 21, 3) := by decide +kernel
theorem d_Wr_putDigits_65 : decode c_Wr_putDigits 65 = .ok (.iload_n 1, 1) := by decide +kernel
theorem d_Wr_putDigits_66 : decode c_Wr_putDigits 66 = .ok (.iload 4, 2) := by decide +kernel
theorem d_Wr_putDigits_68 : decode c_Wr_putDigits 68 = .ok (.iadd, 1) := by decide +kernel
theorem d_Wr_putDigits_69 : decode c_Wr_putDigits 69 = .ok (.invokevirtual 148, 3) := by decide +kernel
theorem d_Wr_putDigits_72 : decode c_Wr_putDigits 72 = .ok (.iadd, 1) := by decide +kernel
theorem d_Wr_putDigits_73 : decode c_Wr_putDigits 73 = .ok (.invokevirtual 34, 3) := by decide +kernel
theorem d_Wr_putDigits_76 : decode c_Wr_putDigits 76 = .ok (.iinc 4 1, 3) := by decide +kernel
theorem d_Wr_putDigits_79 : decode c_Wr_putDigits 79 = .ok (.goto (-30), 3) := by decide +kernel
theorem d_Wr_putDigits_82 : decode c_Wr_putDigits 82 = .ok (.return_, 1) := by decide +kernel
theorem d_Wr_putPoint_0 : decode c_Wr_putPoint 0 = .ok (.iload_n 1, 1) := by decide +kernel
theorem d_Wr_putPoint_1 : decode c_Wr_putPoint 1 = .ok (.ifCond .gt 7, 3) := by decide +kernel
theorem d_Wr_putPoint_4 : decode c_Wr_putPoint 4 = .ok (.iload_n 2, 1) := by decide +kernel
theorem d_Wr_putPoint_5 : decode c_Wr_putPoint 5 = .ok (.ifCond .eq 12, 3) := by decide +kernel
theorem d_Wr_putPoint_8 : decode c_Wr_putPoint 8 = .ok (.aload_n 0, 1) := by decide +kernel
theorem d_Wr_putPoint_9 : decode c_Wr_putPoint 9 = .ok (.getfield 14, 3) := by decide +kernel
theorem d_Wr_putPoint_12 : decode c_Wr_putPoint 12 = .ok (.bipush 46, 2) := by decide +kernel
theorem d_Wr_putPoint_14 : decode c_Wr_putPoint 14 = .ok (.invokevirtual 34, 3) := by decide +kernel
theorem d_Wr_putPoint_17 : decode c_Wr_putPoint 17 = .ok (.return_, 1) := by decide +kernel
theorem d_Wr_putExponent_0 : decode c_Wr_putExponent 0 = .ok (.iload_n 1, 1) := by decide +kernel
theorem d_Wr_putExponent_1 : decode c_Wr_putExponent 1 = .ok (.ifCond .ge 8, 3) := by decide +kernel
theorem d_Wr_putExponent_4 : decode c_Wr_putExponent 4 = .ok (.iload_n 1, 1) := by decide +kernel
theorem d_Wr_putExponent_5 : decode c_Wr_putExponent 5 = .ok (.ineg, 1) := by decide +kernel
theorem d_Wr_putExponent_6 : decode c_Wr_putExponent 6 = .ok (.goto 4, 3) := by decide +kernel
theorem d_Wr_putExponent_9 : decode c_Wr_putExponent 9 = .ok (.iload_n 1, 1) := by decide +kernel
theorem d_Wr_putExponent_10 : decode c_Wr_putExponent 10 = .ok (.istore_n 3, 1) := by decide +kernel
theorem d_Wr_putExponent_11 : decode c_Wr_putExponent 11 = .ok (.aload_n 0, 1) := by decide +kernel
theorem d_Wr_putExponent_12 : decode c_Wr_putExponent 12 = .ok (.getfield 14, 3) := by decide +kernel
theorem d_Wr_putExponent_15 : decode c_Wr_putExponent 15 = .ok (.iload_n 1, 1) := by decide +kernel
theorem d_Wr_putExponent_16 : decode c_Wr_putExponent 16 = .ok (.ifCond .ge 8, 3) := by decide +kernel
theorem d_Wr_putExponent_19 : decode c_Wr_putExponent 19 = .ok (.bipush 45, 2) := by decide +kernel
theorem d_Wr_putExponent_21 : decode c_Wr_putExponent 21 = .ok (.goto 5, 3) := by decide +kernel
theorem d_Wr_putExponent_24 : decode c_Wr_putExponent 24 = .ok (.bipush 43, 2) := by decide +kernel
theorem d_Wr_putExponent_26 : decode c_Wr_putExponent 26 = .ok (.invokevirtual 34, 3) := by decide +kernel
theorem d_Wr_putExponent_29 : decode c_Wr_putExponent 29 = .ok (.iload_n 3, 1) := by decide +kernel
theorem d_Wr_putExponent_30 : decode c_Wr_putExponent 30 = .ok (.sipush 1000, 3) := by decide +kernel
theorem d_Wr_putExponent_33 : decode c_Wr_putExponent 33 = .ok (.if_icmp .lt 18, 3) := by decide +kernel
theorem d_Wr_putExponent_36 : decode c_Wr_putExponent 36 = .ok (.aload_n 0, 1) := by decide +kernel
theorem d_Wr_putExponent_37 : decode c_Wr_putExponent 37 = .ok (.getfield 14, 3) := by decide +kernel
theorem d_Wr_putExponent_40 : decode c_Wr_putExponent 40 = .ok (.bipush 48, 2) := by decide +kernel
theorem d_Wr_putExponent_42 : decode c_Wr_putExponent 42 = .ok (.iload_n 3, 1) := by decide +kernel
theorem d_Wr_putExponent_43 : decode c_Wr_putExponent 43 = .ok (.sipush 1000, 3) := by decide +kernel
theorem d_Wr_putExponent_46 : decode c_Wr_putExponent 46 = .ok (.idiv, 1) := by decide +kernel
theorem d_Wr_putExponent_47 : decode c_Wr_putExponent 47 = .ok (.iadd, 1) := by decide +kernel
theorem d_Wr_putExponent_48 : decode c_Wr_putExponent 48 = .ok (.invokevirtual 34, 3) := by decide +kernel
theorem d_Wr_putExponent_51 : decode c_Wr_putExponent 51 = .ok (.iload_n 3, 1) := by decide +kernel
theorem d_Wr_putExponent_52 : decode c_Wr_putExponent 52 = .ok (.bipush 100, 2) := by decide +kernel
theorem d_Wr_putExponent_54 : decode c_Wr_putExponent 54 = .ok (.if_icmp .lt 20, 3) := by decide +kernel
theorem d_Wr_putExponent_57 : decode c_Wr_putExponent 57 = .ok (.aload_n 0, 1) := by decide +kernel
theorem d_Wr_putExponent_58 : decode c_Wr_putExponent 58 = .ok (.getfield 14, 3) := by decide +kernel
theorem d_Wr_putExponent_61 : decode c_Wr_putExponent 61 = .ok (.bipush 48, 2) := by decide +kernel
theorem d_Wr_putExponent_63 : decode c_Wr_putExponent 63 = .ok (.iload_n 3, 1) := by decide +kernel
theorem d_Wr_putExponent_64 : decode c_Wr_putExponent 64 = .ok (.bipush 100, 2) := by decide +kernel
theorem d_Wr_putExponent_66 : decode c_Wr_putExponent 66 = .ok (.idiv, 1) := by decide +kernel
theorem d_Wr_putExponent_67 : decode c_Wr_putExponent 67 = .ok (.bipush 10, 2) := by decide +kernel
theorem d_Wr_putExponent_69 : decode c_Wr_putExponent 69 = .ok (.irem, 1) := by decide +kernel
theorem d_Wr_putExponent_70 : decode c_Wr_putExponent 70 = .ok (.iadd, 1) := by decide +kernel
theorem d_Wr_putExponent_71 : decode c_Wr_putExponent 71 = .ok (.invokevirtual 34, 3) := by decide +kernel
theorem d_Wr_putExponent_74 : decode c_Wr_putExponent 74 = .ok (.iload_n 3, 1) := by decide +kernel
theorem d_Wr_putExponent_75 : decode c_Wr_putExponent 75 = .ok (.bipush 10, 2) := by decide +kernel
theorem d_Wr_putExponent_77 : decode c_Wr_putExponent 77 = .ok (.if_icmp .ge 7, 3) := by decide +kernel
theorem d_Wr_putExponent_80 : decode c_Wr_putExponent 80 = .ok (.iload_n 2, 1) := by decide +kernel
theorem d_Wr_putExponent_81 : decode c_Wr_putExponent 81 = .ok (.ifCond .eq 20, 3) := by decide +kernel
theorem d_Wr_putExponent_84 : decode c_Wr_putExponent 84 = .ok (.aload_n 0, 1) := by decide +kernel
theorem d_Wr_putExponent_85 : decode c_Wr_putExponent 85 = .ok (.getfield 14, 3) := by decide +kernel
theorem d_Wr_putExponent_88 : decode c_Wr_putExponent 88 = .ok (.bipush 48, 2) := by decide +kernel
theorem d_Wr_putExponent_90 : decode c_Wr_putExponent 90 = .ok (.iload_n 3, 1) := by decide +kernel
theorem d_Wr_putExponent_91 : decode c_Wr_putExponent 91 = .ok (.bipush 10, 2) := by decide +kernel
theorem d_Wr_putExponent_93 : decode c_Wr_putExponent 93 = .ok (.idiv, 1) := by decide +kernel
theorem d_Wr_putExponent_94 : decode c_Wr_putExponent 94 = .ok (.bipush 10, 2) := by decide +kernel
theorem d_Wr_putExponent_96 : decode c_Wr_putExponent 96 = .ok (.irem, 1) := by decide +kernel
theorem d_Wr_putExponent_97 : decode c_Wr_putExponent 97 = .ok (.iadd, 1) := by decide +kernel
theorem d_Wr_putExponent_98 : decode c_Wr_putExponent 98 = .ok (.invokevirtual 34, 3) := by decide +kernel
theorem d_Wr_putExponent_101 : decode c_Wr_putExponent 101 = .ok (.aload_n 0, 1) := by decide +kernel
theorem d_Wr_putExponent_102 : decode c_Wr_putExponent 102 = .ok (.getfield 14, 3) := by decide +kernel
theorem d_Wr_putExponent_105 : decode c_Wr_putExponent 105 = .ok (.bipush 48, 2) := by decide +kernel
theorem d_Wr_putExponent_107 : decode c_Wr_putExponent 107 = .ok (.iload_n 3, 1) := by decide +kernel
theorem d_Wr_putExponent_108 : decode c_Wr_putExponent 108 = .ok (.bipush 10, 2) := by decide +kernel
theorem d_Wr_putExponent_110 : decode c_Wr_putExponent 110 = .ok (.irem, 1) := by decide +kernel
theorem d_Wr_putExponent_111 : decode c_Wr_putExponent 111 = .ok (.iadd, 1) := by decide +kernel
theorem d_Wr_putExponent_112 : decode c_Wr_putExponent 112 = .ok (.invokevirtual 34, 3) := by decide +kernel
theorem d_Wr_putExponent_115 : decode c_Wr_putExponent 115 = .ok (.return_, 1) := by decide +kernel
theorem d_Wr_writeHexadecimal_0 : decode c_Wr_writeHexadecimal 0 = .ok (.aload 4, 2) := by decide +kernel
theorem d_Wr_writeHexadecimal_2 : decode c_Wr_writeHexadecimal 2 = .ok (.getfield 84, 3) := by decide +kernel
theorem d_Wr_writeHexadecimal_5 : decode c_Wr_writeHexadecimal 5 = .ok (.iconst (-1), 1) := by decide +kernel
theorem d_Wr_writeHexadecimal_6 : decode c_Wr_writeHexadecimal 6 = .ok (.if_icmp .ne 10, 3) := by decide +kernel
theorem d_Wr_writeHexadecimal_9 : decode c_Wr_writeHexadecimal 9 = .ok (.lload_n 1, 1) := by decide +kernel
theorem d_Wr_writeHexadecimal_10 : decode c_Wr_writeHexadecimal 10 = .ok (.invokestatic 154, 3) := by decide +kernel
theorem d_Wr_writeHexadecimal_13 : decode c_Wr_writeHexadecimal 13 = .ok (.goto 8, 3) := by decide +kernel
theorem d_Wr_writeHexadecimal_16 : decode c_Wr_writeHexadecimal 16 = .ok (.aload 4, 2) := by decide +kernel
theorem d_Wr_writeHexadecimal_18 : decode c_Wr_writeHexadecimal 18 = .ok (.getfield 84, 3) := by decide +kernel
theorem d_Wr_writeHexadecimal_21 : decode c_Wr_writeHexadecimal 21 = .ok (.istore 5, 2) := by decide +kernel
theorem d_Wr_writeHexadecimal_23 : decode c_Wr_writeHexadecimal 23 = .ok (.lload_n 1, 1) := by decide +kernel
theorem d_Wr_writeHexadecimal_24 : decode c_Wr_writeHexadecimal 24 = .ok (.iload 5, 2) := by decide +kernel
theorem d_Wr_writeHexadecimal_26 : decode c_Wr_writeHexadecimal 26 = .ok (.invokestatic 158, 3) := by decide +kernel
theorem d_Wr_writeHexadecimal_29 : decode c_Wr_writeHexadecimal 29 = .ok (.lstore 6, 2) := by decide +kernel
theorem d_Wr_writeHexadecimal_31 : decode c_Wr_writeHexadecimal 31 = .ok (.aload_n 0, 1) := by decide +kernel
theorem d_Wr_writeHexadecimal_32 : decode c_Wr_writeHexadecimal 32 = .ok (.getfield 14, 3) := by decide +kernel
theorem d_Wr_writeHexadecimal_35 : decode c_Wr_writeHexadecimal 35 = .ok (.ldc 78, 2) := by decide +kernel
theorem d_Wr_writeHexadecimal_37 : decode c_Wr_writeHexadecimal 37 = .ok (.invokevirtual 80, 3) := by decide +kernel
theorem d_Wr_writeHexadecimal_40 : decode c_Wr_writeHexadecimal 40 = .ok (.aload_n 0, 1) := by decide +kernel
theorem d_Wr_writeHexadecimal_41 : decode c_Wr_writeHexadecimal 41 = .ok (.getfield 14, 3) := by decide +kernel
theorem d_Wr_writeHexadecimal_44 : decode c_Wr_writeHexadecimal 44 = .ok (.invokevirtual 87, 3) := by decide +kernel
theorem d_Wr_writeHexadecimal_47 : decode c_Wr_writeHexadecimal 47 = .ok (.aload_n 0, 1) := by decide +kernel
theorem d_Wr_writeHexadecimal_48 : decode c_Wr_writeHexadecimal 48 = .ok (.getfield 14, 3) := by decide +kernel
theorem d_Wr_writeHexadecimal_51 : decode c_Wr_writeHexadecimal 51 = .ok (.lload 6, 2) := by decide +kernel
theorem d_Wr_writeHexadecimal_53 : decode c_Wr_writeHexadecimal 53 = .ok (.bipush 52, 2) := by decide +kernel
theorem d_Wr_writeHexadecimal_55 : decode c_Wr_writeHexadecimal 55 = .ok (.lushr, 1) := by decide +kernel
theorem d_Wr_writeHexadecimal_56 : decode c_Wr_writeHexadecimal 56 = .ok (.l2i, 1) := by decide +kernel
theorem d_Wr_writeHexadecimal_57 : decode c_Wr_writeHexadecimal 57 = .ok (.invokevirtual 162, 3) := by decide +kernel
theorem d_Wr_writeHexadecimal_60 : decode c_Wr_writeHexadecimal 60 = .ok (.aload_n 0, 1) := by decide +kernel
theorem d_Wr_writeHexadecimal_61 : decode c_Wr_writeHexadecimal 61 = .ok (.iload 5, 2) := by decide +kernel
theorem d_Wr_writeHexadecimal_63 : decode c_Wr_writeHexadecimal 63 = .ok (.aload 4, 2) := by decide +kernel
theorem d_Wr_writeHexadecimal_65 : decode c_Wr_writeHexadecimal 65 = .ok (.getfield 75, 3) := by decide +kernel
theorem d_Wr_writeHexadecimal_68 : decode c_Wr_writeHexadecimal 68 = .ok (.invokevirtual 151, 3) := by decide +kernel
theorem d_Wr_writeHexadecimal_71 : decode c_Wr_writeHexadecimal 71 = .ok (.iconst 1, 1) := by decide +kernel
theorem d_Wr_writeHexadecimal_72 : decode c_Wr_writeHexadecimal 72 = .ok (.istore 8, 2) := by decide +kernel
theorem d_Wr_writeHexadecimal_74 : decode c_Wr_writeHexadecimal 74 = .ok (.iload 8, 2) := by decide +kernel
theorem d_Wr_writeHexadecimal_76 : decode c_Wr_writeHexadecimal 76 = .ok (.iload 5, 2) := by decide +kernel
theorem d_Wr_writeHexadecimal_78 : decode c_Wr_writeHexadecimal 78 = .ok (.if_icmp .gt 41, 3) := by decide +kernel
theorem d_Wr_writeHexadecimal_81 : decode c_Wr_writeHexadecimal 81 = .ok (.aload_n 0, 1) := by decide +kernel
theorem d_Wr_writeHexadecimal_82 : decode c_Wr_writeHexadecimal 82 = .ok (.getfield 14, 3) := by decide +kernel
theorem d_Wr_writeHexadecimal_85 : decode c_Wr_writeHexadecimal 85 = .ok (.iload 8, 2) := by decide +kernel
theorem d_Wr_writeHexadecimal_87 : decode c_Wr_writeHexadecimal 87 = .ok (.bipush 13, 2) := by decide +kernel
theorem d_Wr_writeHexadecimal_89 : decode c_Wr_writeHexadecimal 89 = .ok (.if_icmp .gt 20, 3) := by decide +kernel
theorem d_Wr_writeHexadecimal_92 : decode c_Wr_writeHexadecimal 92 = .ok (.lload 6, 2) := by decide +kernel
theorem d_Wr_writeHexadecimal_94 : decode c_Wr_writeHexadecimal 94 = .ok (.bipush 52, 2) := by decide +kernel
theorem d_Wr_writeHexadecimal_96 : decode c_Wr_writeHexadecimal 96 = .ok (.iconst 4, 1) := by decide +kernel
theorem d_Wr_writeHexadecimal_97 : decode c_Wr_writeHexadecimal 97 = .ok (.iload 8, 2) := by decide +kernel
theorem d_Wr_writeHexadecimal_99 : decode c_Wr_writeHexadecimal 99 = .ok (.imul, 1) := by decide +kernel
theorem d_Wr_writeHexadecimal_100 : decode c_Wr_writeHexadecimal 100 = .ok (.isub, 1) := by decide +kernel
theorem d_Wr_writeHexadecimal_101 : decode c_Wr_writeHexadecimal 101 = .ok (.lushr, 1) := by decide +kernel
theorem d_Wr_writeHexadecimal_102 : decode c_Wr_writeHexadecimal 102 = .ok (.l2i, 1) := by decide +kernel
theorem d_Wr_writeHexadecimal_103 : decode c_Wr_writeHexadecimal 103 = .ok (.bipush 15, 2) := by decide +kernel
theorem d_Wr_writeHexadecimal_105 : decode c_Wr_writeHexadecimal 105 = .ok (.iand, 1) := by decide +kernel
theorem d_Wr_writeHexadecimal_106 : decode c_Wr_writeHexadecimal 106 = .ok (.goto 4, 3) := by decide +kernel
theorem d_Wr_writeHexadecimal_109 : decode c_Wr_writeHexadecimal 109 = .ok (.iconst 0, 1) := by decide +kernel
theorem d_Wr_writeHexadecimal_110 : decode c_Wr_writeHexadecimal 110 = .ok (.invokevirtual 162, 3) := by decide +kernel
theorem d_Wr_writeHexadecimal_113 : decode c_Wr_writeHexadecimal 113 = .ok (.iinc 8 1, 3) := by decide +kernel
theorem d_Wr_writeHexadecimal_116 : decode c_Wr_writeHexadecimal 116 = .ok (.goto (-42), 3) := by decide +kernel
theorem d_Wr_writeHexadecimal_119 : decode c_Wr_writeHexadecimal 119 = .ok (.aload_n 0, 1) := by decide +kernel
theorem d_Wr_writeHexadecimal_120 : decode c_Wr_writeHexadecimal 120 = .ok (.getfield 14, 3) := by decide +kernel
theorem d_Wr_writeHexadecimal_123 : decode c_Wr_writeHexadecimal 123 = .ok (.bipush 112, 2) := by decide +kernel
theorem d_Wr_writeHexadecimal_125 : decode c_Wr_writeHexadecimal 125 = .ok (.invokevirtual 34, 3) := by decide +kernel
theorem d_Wr_writeHexadecimal_128 : decode c_Wr_writeHexadecimal 128 = .ok (.aload_n 0, 1) := by decide +kernel
theorem d_Wr_writeHexadecimal_129 : decode c_Wr_writeHexadecimal 129 = .ok (.lload_n 1, 1) := by decide +kernel
theorem d_Wr_writeHexadecimal_130 : decode c_Wr_writeHexadecimal 130 = .ok (.lconst 0, 1) := by decide +kernel
theorem d_Wr_writeHexadecimal_131 : decode c_Wr_writeHexadecimal 131 = .ok (.lcmp, 1) := by decide +kernel
theorem d_Wr_writeHexadecimal_132 : decode c_Wr_writeHexadecimal 132 = .ok (.ifCond .ne 7, 3) := by decide +kernel
theorem d_Wr_writeHexadecimal_135 : decode c_Wr_writeHexadecimal 135 = .ok (.iconst 0, 1) := by decide +kernel
theorem d_Wr_writeHexadecimal_136 : decode c_Wr_writeHexadecimal 136 = .ok (.goto 4, 3) := by decide +kernel
theorem d_Wr_writeHexadecimal_139 : decode c_Wr_writeHexadecimal 139 = .ok (.iload_n 3, 1) := by decide +kernel
theorem d_Wr_writeHexadecimal_140 : decode c_Wr_writeHexadecimal 140 = .ok (.iconst 0, 1) := by decide +kernel
theorem d_Wr_writeHexadecimal_141 : decode c_Wr_writeHexadecimal 141 = .ok (.invokevirtual 144, 3) := by decide +kernel
theorem d_Wr_writeHexadecimal_144 : decode c_Wr_writeHexadecimal 144 = .ok (.return_, 1) := by decide +kernel
theorem d_Wr_hexadecimalDigitsOf_0 : decode c_Wr_hexadecimalDigitsOf 0 = .ok (.bipush 13, 2) := by decide +kernel
theorem d_Wr_hexadecimalDigitsOf_2 : decode c_Wr_hexadecimalDigitsOf 2 = .ok (.istore_n 2, 1) := by decide +kernel
theorem d_Wr_hexadecimalDigitsOf_3 : decode c_Wr_hexadecimalDigitsOf 3 = .ok (.iload_n 2, 1) := by decide +kernel
theorem d_Wr_hexadecimalDigitsOf_4 : decode c_Wr_hexadecimalDigitsOf 4 = .ok (.ifCond .le 28, 3) := by decide +kernel
theorem d_Wr_hexadecimalDigitsOf_7 : decode c_Wr_hexadecimalDigitsOf 7 = .ok (.lload_n 0, 1) := by decide +kernel
theorem d_Wr_hexadecimalDigitsOf_8 : decode c_Wr_hexadecimalDigitsOf 8 = .ok (.bipush 52, 2) := by decide +kernel
theorem d_Wr_hexadecimalDigitsOf_10 : decode c_Wr_hexadecimalDigitsOf 10 = .ok (.iconst 4, 1) := by decide +kernel
theorem d_Wr_hexadecimalDigitsOf_11 : decode c_Wr_hexadecimalDigitsOf 11 = .ok (.iload_n 2, 1) := by decide +kernel
theorem d_Wr_hexadecimalDigitsOf_12 : decode c_Wr_hexadecimalDigitsOf 12 = .ok (.imul, 1) := by decide +kernel
theorem d_Wr_hexadecimalDigitsOf_13 : decode c_Wr_hexadecimalDigitsOf 13 = .ok (.isub, 1) := by decide +kernel
theorem d_Wr_hexadecimalDigitsOf_14 : decode c_Wr_hexadecimalDigitsOf 14 = .ok (.lushr, 1) := by decide +kernel
theorem d_Wr_hexadecimalDigitsOf_15 : decode c_Wr_hexadecimalDigitsOf 15 = .ok (.ldc2_w 165, 3) := by decide +kernel
theorem d_Wr_hexadecimalDigitsOf_18 : decode c_Wr_hexadecimalDigitsOf 18 = .ok (.land, 1) := by decide +kernel
theorem d_Wr_hexadecimalDigitsOf_19 : decode c_Wr_hexadecimalDigitsOf 19 = .ok (.lconst 0, 1) := by decide +kernel
theorem d_Wr_hexadecimalDigitsOf_20 : decode c_Wr_hexadecimalDigitsOf 20 = .ok (.lcmp, 1) := by decide +kernel
theorem d_Wr_hexadecimalDigitsOf_21 : decode c_Wr_hexadecimalDigitsOf 21 = .ok (.ifCond .eq 5, 3) := by decide +kernel
theorem d_Wr_hexadecimalDigitsOf_24 : decode c_Wr_hexadecimalDigitsOf 24 = .ok (.iload_n 2, 1) := by decide +kernel
theorem d_Wr_hexadecimalDigitsOf_25 : decode c_Wr_hexadecimalDigitsOf 25 = .ok (.ireturn, 1) := by decide +kernel
theorem d_Wr_hexadecimalDigitsOf_26 : decode c_Wr_hexadecimalDigitsOf 26 = .ok (.iinc 2 (-1), 3) := by decide +kernel
theorem d_Wr_hexadecimalDigitsOf_29 : decode c_Wr_hexadecimalDigitsOf 29 = .ok (.goto (-26), 3) := by decide +kernel
theorem d_Wr_hexadecimalDigitsOf_32 : decode c_Wr_hexadecimalDigitsOf 32 = .ok (.iconst 0, 1) := by decide +kernel
theorem d_Wr_hexadecimalDigitsOf_33 : decode c_Wr_hexadecimalDigitsOf 33 = .ok (.ireturn, 1) := by decide +kernel
theorem d_Wr_roundHexadecimal_0 : decode c_Wr_roundHexadecimal 0 = .ok (.iload_n 2, 1) := by decide +kernel
theorem d_Wr_roundHexadecimal_1 : decode c_Wr_roundHexadecimal 1 = .ok (.bipush 13, 2) := by decide +kernel
theorem d_Wr_roundHexadecimal_3 : decode c_Wr_roundHexadecimal 3 = .ok (.if_icmp .lt 5, 3) := by decide +kernel
theorem d_Wr_roundHexadecimal_6 : decode c_Wr_roundHexadecimal 6 = .ok (.lload_n 0, 1) := by decide +kernel
theorem d_Wr_roundHexadecimal_7 : decode c_Wr_roundHexadecimal 7 = .ok (.lreturn, 1) := by decide +kernel
theorem d_Wr_roundHexadecimal_8 : decode c_Wr_roundHexadecimal 8 = .ok (.iconst 4, 1) := by decide +kernel
theorem d_Wr_roundHexadecimal_9 : decode c_Wr_roundHexadecimal 9 = .ok (.bipush 13, 2) := by decide +kernel
theorem d_Wr_roundHexadecimal_11 : decode c_Wr_roundHexadecimal 11 = .ok (.iload_n 2, 1) := by decide +kernel
theorem d_Wr_roundHexadecimal_12 : decode c_Wr_roundHexadecimal 12 = .ok (.isub, 1) := by decide +kernel
theorem d_Wr_roundHexadecimal_13 : decode c_Wr_roundHexadecimal 13 = .ok (.imul, 1) := by decide +kernel
theorem d_Wr_roundHexadecimal_14 : decode c_Wr_roundHexadecimal 14 = .ok (.istore_n 3, 1) := by decide +kernel
theorem d_Wr_roundHexadecimal_15 : decode c_Wr_roundHexadecimal 15 = .ok (.lconst 1, 1) := by decide +kernel
theorem d_Wr_roundHexadecimal_16 : decode c_Wr_roundHexadecimal 16 = .ok (.iload_n 3, 1) := by decide +kernel
theorem d_Wr_roundHexadecimal_17 : decode c_Wr_roundHexadecimal 17 = .ok (.iconst 1, 1) := by decide +kernel
theorem d_Wr_roundHexadecimal_18 : decode c_Wr_roundHexadecimal 18 = .ok (.isub, 1) := by decide +kernel
theorem d_Wr_roundHexadecimal_19 : decode c_Wr_roundHexadecimal 19 = .ok (.lshl, 1) := by decide +kernel
theorem d_Wr_roundHexadecimal_20 : decode c_Wr_roundHexadecimal 20 = .ok (.lstore 4, 2) := by decide +kernel
theorem d_Wr_roundHexadecimal_22 : decode c_Wr_roundHexadecimal 22 = .ok (.lload_n 0, 1) := by decide +kernel
theorem d_Wr_roundHexadecimal_23 : decode c_Wr_roundHexadecimal 23 = .ok (.lconst 1, 1) := by decide +kernel
theorem d_Wr_roundHexadecimal_24 : decode c_Wr_roundHexadecimal 24 = .ok (.iload_n 3, 1) := by decide +kernel
theorem d_Wr_roundHexadecimal_25 : decode c_Wr_roundHexadecimal 25 = .ok (.lshl, 1) := by decide +kernel
theorem d_Wr_roundHexadecimal_26 : decode c_Wr_roundHexadecimal 26 = .ok (.lconst 1, 1) := by decide +kernel
theorem d_Wr_roundHexadecimal_27 : decode c_Wr_roundHexadecimal 27 = .ok (.lsub, 1) := by decide +kernel
theorem d_Wr_roundHexadecimal_28 : decode c_Wr_roundHexadecimal 28 = .ok (.land, 1) := by decide +kernel
theorem d_Wr_roundHexadecimal_29 : decode c_Wr_roundHexadecimal 29 = .ok (.lstore 6, 2) := by decide +kernel
theorem d_Wr_roundHexadecimal_31 : decode c_Wr_roundHexadecimal 31 = .ok (.lload_n 0, 1) := by decide +kernel
theorem d_Wr_roundHexadecimal_32 : decode c_Wr_roundHexadecimal 32 = .ok (.iload_n 3, 1) := by decide +kernel
theorem d_Wr_roundHexadecimal_33 : decode c_Wr_roundHexadecimal 33 = .ok (.lushr, 1) := by decide +kernel
theorem d_Wr_roundHexadecimal_34 : decode c_Wr_roundHexadecimal 34 = .ok (.lstore 8, 2) := by decide +kernel
theorem d_Wr_roundHexadecimal_36 : decode c_Wr_roundHexadecimal 36 = .ok (.lload 6, 2) := by decide +kernel
theorem d_Wr_roundHexadecimal_38 : decode c_Wr_roundHexadecimal 38 = .ok (.lload 4, 2) := by decide +kernel
theorem d_Wr_roundHexadecimal_40 : decode c_Wr_roundHexadecimal 40 = .ok (.lcmp, 1) := by decide +kernel
theorem d_Wr_roundHexadecimal_41 : decode c_Wr_roundHexadecimal 41 = .ok (.ifCond .gt 20, 3) := by decide +kernel
theorem d_Wr_roundHexadecimal_44 : decode c_Wr_roundHexadecimal 44 = .ok (.lload 6, 2) := by decide +kernel
theorem d_Wr_roundHexadecimal_46 : decode c_Wr_roundHexadecimal 46 = .ok (.lload 4, 2) := by decide +kernel
theorem d_Wr_roundHexadecimal_48 : decode c_Wr_roundHexadecimal 48 = .ok (.lcmp, 1) := by decide +kernel
theorem d_Wr_roundHexadecimal_49 : decode c_Wr_roundHexadecimal 49 = .ok (.ifCond .ne 18, 3) := by decide +kernel
theorem d_Wr_roundHexadecimal_52 : decode c_Wr_roundHexadecimal 52 = .ok (.lload 8, 2) := by decide +kernel
theorem d_Wr_roundHexadecimal_54 : decode c_Wr_roundHexadecimal 54 = .ok (.lconst 1, 1) := by decide +kernel
theorem d_Wr_roundHexadecimal_55 : decode c_Wr_roundHexadecimal 55 = .ok (.land, 1) := by decide +kernel
theorem d_Wr_roundHexadecimal_56 : decode c_Wr_roundHexadecimal 56 = .ok (.lconst 1, 1) := by decide +kernel
theorem d_Wr_roundHexadecimal_57 : decode c_Wr_roundHexadecimal 57 = .ok (.lcmp, 1) := by decide +kernel
theorem d_Wr_roundHexadecimal_58 : decode c_Wr_roundHexadecimal 58 = .ok (.ifCond .ne 9, 3) := by decide +kernel
theorem d_Wr_roundHexadecimal_61 : decode c_Wr_roundHexadecimal 61 = .ok (.lload 8, 2) := by decide +kernel
theorem d_Wr_roundHexadecimal_63 : decode c_Wr_roundHexadecimal 63 = .ok (.lconst 1, 1) := by decide +kernel
theorem d_Wr_roundHexadecimal_64 : decode c_Wr_roundHexadecimal 64 = .ok (.ladd, 1) := by decide +kernel
theorem d_Wr_roundHexadecimal_65 : decode c_Wr_roundHexadecimal 65 = .ok (.lstore 8, 2) := by decide +kernel
theorem d_Wr_roundHexadecimal_67 : decode c_Wr_roundHexadecimal 67 = .ok (.lload 8, 2) := by decide +kernel
theorem d_Wr_roundHexadecimal_69 : decode c_Wr_roundHexadecimal 69 = .ok (.iload_n 3, 1) := by decide +kernel
theorem d_Wr_roundHexadecimal_70 : decode c_Wr_roundHexadecimal 70 = .ok (.lshl, 1) := by decide +kernel
theorem d_Wr_roundHexadecimal_71 : decode c_Wr_roundHexadecimal 71 = .ok (.lreturn, 1) := by decide +kernel
