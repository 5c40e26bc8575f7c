/-! decode rows: De -/
theorem d_De_init_0 : decode c_De_init 0 = .ok (.aload_n 0, 1) := by decide +kernel
theorem d_De_init_1 : decode c_De_init 1 = .ok (.invokespecial 1, 3) := by decide +kernel
theorem d_De_init_4 : decode c_De_init 4 = .ok (.aload_n 0, 1) := by decide +kernel
theorem d_De_init_5 : decode c_De_init 5 = .ok (.bipush 86, 2) := by decide +kernel
theorem d_De_init_7 : decode c_De_init 7 = .ok (.newarray .long, 2) := by decide +kernel
theorem d_De_init_9 : decode c_De_init 9 = .ok (.putfield 9, 3) := by decide +kernel
theorem d_De_init_12 : decode c_De_init 12 = .ok (.aload_n 0, 1) := by decide +kernel
theorem d_De_init_13 : decode c_De_init 13 = .ok (.iconst 0, 1) := by decide +kernel
theorem d_De_init_14 : decode c_De_init 14 = .ok (.putfield 13, 3) := by decide +kernel
theorem d_De_init_17 : decode c_De_init 17 = .ok (.aload_n 0, 1) := by decide +kernel
theorem d_De_init_18 : decode c_De_init 18 = .ok (.sipush 774, 3) := by decide +kernel
theorem d_De_init_21 : decode c_De_init 21 = .ok (.newarray .byte, 2) := by decide +kernel
theorem d_De_init_23 : decode c_De_init 23 = .ok (.putfield 17, 3) := by decide +kernel
theorem d_De_init_26 : decode c_De_init 26 = .ok (.aload_n 0, 1) := by decide +kernel
theorem d_De_init_27 : decode c_De_init 27 = .ok (.iconst 0, 1) := by decide +kernel
theorem d_De_init_28 : decode c_De_init 28 = .ok (.putfield 21, 3) := by decide +kernel
theorem d_De_init_31 : decode c_De_init 31 = .ok (.aload_n 0, 1) := by decide +kernel
theorem d_De_init_32 : decode c_De_init 32 = .ok (.iconst 1, 1) := by decide +kernel
theorem d_De_init_33 : decode c_De_init 33 = .ok (.putfield 24, 3) := by decide +kernel
theorem d_De_init_36 : decode c_De_init 36 = .ok (.return_, 1) := by decide +kernel
theorem d_De_become_0 : decode c_De_become 0 = .ok (.lload_n 1, 1) := by decide +kernel
theorem d_De_become_1 : decode c_De_become 1 = .ok (.lconst 0, 1) := by decide +kernel
theorem d_De_become_2 : decode c_De_become 2 = .ok (.lcmp, 1) := by decide +kernel
theorem d_De_become_3 : decode c_De_become 3 = .ok (.ifCond .ne 8, 3) := by decide +kernel
theorem d_De_become_6 : decode c_De_become 6 = .ok (.aload_n 0, 1) := by decide +kernel
theorem d_De_become_7 : decode c_De_become 7 = .ok (.invokevirtual 27, 3) := by decide +kernel
theorem d_De_become_10 : decode c_De_become 10 = .ok (.return_, 1) := by decide +kernel
theorem d_De_become_11 : decode c_De_become 11 = .ok (.aload_n 0, 1) := by decide +kernel
theorem d_De_become_12 : decode c_De_become 12 = .ok (.getfield 9, 3) := by decide +kernel
theorem d_De_become_15 : decode c_De_become 15 = .ok (.iconst 0, 1) := by decide +kernel
theorem d_De_become_16 : decode c_De_become 16 = .ok (.lload_n 1, 1) := by decide +kernel
theorem d_De_become_17 : decode c_De_become 17 = .ok (.ldc2_w 30, 3) := by decide +kernel
theorem d_De_become_20 : decode c_De_become 20 = .ok (.lrem, 1) := by decide +kernel
theorem d_De_become_21 : decode c_De_become 21 = .ok (.lastore, 1) := by decide +kernel
theorem d_De_become_22 : decode c_De_become 22 = .ok (.aload_n 0, 1) := by decide +kernel
theorem d_De_become_23 : decode c_De_become 23 = .ok (.getfield 9, 3) := by decide +kernel
theorem d_De_become_26 : decode c_De_become 26 = .ok (.iconst 1, 1) := by decide +kernel
theorem d_De_become_27 : decode c_De_become 27 = .ok (.lload_n 1, 1) := by decide +kernel
theorem d_De_become_28 : decode c_De_become 28 = .ok (.ldc2_w 30, 3) := by decide +kernel
theorem d_De_become_31 : decode c_De_become 31 = .ok (.ldiv, 1) := by decide +kernel
theorem d_De_become_32 : decode c_De_become 32 = .ok (.lastore, 1) := by decide +kernel
theorem d_De_become_33 : decode c_De_become 33 = .ok (.aload_n 0, 1) := by decide +kernel
theorem d_De_become_34 : decode c_De_become 34 = .ok (.aload_n 0, 1) := by decide +kernel
theorem d_De_become_35 : decode c_De_become 35 = .ok (.getfield 9, 3) := by decide +kernel
theorem d_De_become_38 : decode c_De_become 38 = .ok (.iconst 1, 1) := by decide +kernel
theorem d_De_become_39 : decode c_De_become 39 = .ok (.laload, 1) := by decide +kernel
theorem d_De_become_40 : decode c_De_become 40 = .ok (.lconst 0, 1) := by decide +kernel
theorem d_De_become_41 : decode c_De_become 41 = .ok (.lcmp, 1) := by decide +kernel
theorem d_De_become_42 : decode c_De_become 42 = .ok (.ifCond .ne 7, 3) := by decide +kernel
theorem d_De_become_45 : decode c_De_become 45 = .ok (.iconst 1, 1) := by decide +kernel
theorem d_De_become_46 : decode c_De_become 46 = .ok (.goto 4, 3) := by decide +kernel
theorem d_De_become_49 : decode c_De_become 49 = .ok (.iconst 2, 1) := by decide +kernel
theorem d_De_become_50 : decode c_De_become 50 = .ok (.putfield 13, 3) := by decide +kernel
theorem d_De_become_53 : decode c_De_become 53 = .ok (.iload_n 3, 1) := by decide +kernel
theorem d_De_become_54 : decode c_De_become 54 = .ok (.istore 4, 2) := by decide +kernel
theorem d_De_become_56 : decode c_De_become 56 = .ok (.iload 4, 2) := by decide +kernel
theorem d_De_become_58 : decode c_De_become 58 = .ok (.ifCond .le 22, 3) := by decide +kernel
theorem d_De_become_61 : decode c_De_become 61 = .ok (.aload_n 0, 1) := by decide +kernel
theorem d_De_become_62 : decode c_De_become 62 = .ok (.lconst 1, 1) := by decide +kernel
theorem d_De_become_63 : decode c_De_become 63 = .ok (.iload 4, 2) := by decide +kernel
theorem d_De_become_65 : decode c_De_become 65 = .ok (.bipush 29, 2) := by decide +kernel
theorem d_De_become_67 : decode c_De_become 67 = .ok (.invokestatic 32, 3) := by decide +kernel
theorem d_De_become_70 : decode c_De_become 70 = .ok (.lshl, 1) := by decide +kernel
theorem d_De_become_71 : decode c_De_become 71 = .ok (.invokevirtual 38, 3) := by decide +kernel
theorem d_De_become_74 : decode c_De_become 74 = .ok (.iinc 4 (-29), 3) := by decide +kernel
theorem d_De_become_77 : decode c_De_become 77 = .ok (.goto (-21), 3) := by decide +kernel
theorem d_De_become_80 : decode c_De_become 80 = .ok (.iload_n 3, 1) := by decide +kernel
theorem d_De_become_81 : decode c_De_become 81 = .ok (.ineg, 1) := by decide +kernel
theorem d_De_become_82 : decode c_De_become 82 = .ok (.istore 4, 2) := by decide +kernel
theorem d_De_become_84 : decode c_De_become 84 = .ok (.iload 4, 2) := by decide +kernel
theorem d_De_become_86 : decode c_De_become 86 = .ok (.ifCond .le 24, 3) := by decide +kernel
theorem d_De_become_89 : decode c_De_become 89 = .ok (.aload_n 0, 1) := by decide +kernel
theorem d_De_become_90 : decode c_De_become 90 = .ok (.getstatic 42, 3) := by decide +kernel
theorem d_De_become_93 : decode c_De_become 93 = .ok (.iload 4, 2) := by decide +kernel
theorem d_De_become_95 : decode c_De_become 95 = .ok (.bipush 12, 2) := by decide +kernel
theorem d_De_become_97 : decode c_De_become 97 = .ok (.invokestatic 32, 3) := by decide +kernel
theorem d_De_become_100 : decode c_De_become 100 = .ok (.laload, 1) := by decide +kernel
theorem d_De_become_101 : decode c_De_become 101 = .ok (.invokevirtual 38, 3) := by decide +kernel
theorem d_De_become_104 : decode c_De_become 104 = .ok (.iinc 4 (-12), 3) := by decide +kernel
theorem d_De_become_107 : decode c_De_become 107 = .ok (.goto (-23), 3) := by decide +kernel
theorem d_De_become_110 : decode c_De_become 110 = .ok (.aload_n 0, 1) := by decide +kernel
theorem d_De_become_111 : decode c_De_become 111 = .ok (.invokevirtual 45, 3) := by decide +kernel
theorem d_De_become_114 : decode c_De_become 114 = .ok (.aload_n 0, 1) := by decide +kernel
theorem d_De_become_115 : decode c_De_become 115 = .ok (.aload_n 0, 1) := by decide +kernel
theorem d_De_become_116 : decode c_De_become 116 = .ok (.getfield 21, 3) := by decide +kernel
theorem d_De_become_119 : decode c_De_become 119 = .ok (.iload_n 3, 1) := by decide +kernel
theorem d_De_become_120 : decode c_De_become 120 = .ok (.iconst 0, 1) := by decide +kernel
theorem d_De_become_121 : decode c_De_become 121 = .ok (.invokestatic 32, 3) := by decide +kernel
theorem d_De_become_124 : decode c_De_become 124 = .ok (.iadd, 1) := by decide +kernel
theorem d_De_become_125 : decode c_De_become 125 = .ok (.putfield 24, 3) := by decide +kernel
theorem d_De_become_128 : decode c_De_become 128 = .ok (.return_, 1) := by decide +kernel
theorem d_De_becomeZero_0 : decode c_De_becomeZero 0 = .ok (.aload_n 0, 1) := by decide +kernel
theorem d_De_becomeZero_1 : decode c_De_becomeZero 1 = .ok (.iconst 0, 1) := by decide +kernel
theorem d_De_becomeZero_2 : decode c_De_becomeZero 2 = .ok (.putfield 21, 3) := by decide +kernel
theorem d_De_becomeZero_5 : decode c_De_becomeZero 5 = .ok (.aload_n 0, 1) := by decide +kernel
theorem d_De_becomeZero_6 : decode c_De_becomeZero 6 = .ok (.iconst 1, 1) := by decide +kernel
theorem d_De_becomeZero_7 : decode c_De_becomeZero 7 = .ok (.putfield 24, 3) := by decide +kernel
theorem d_De_becomeZero_10 : decode c_De_becomeZero 10 = .ok (.return_, 1) := by decide +kernel
theorem d_De_multiply_0 : decode c_De_multiply 0 = .ok (.lconst 0, 1) := by decide +kernel
theorem d_De_multiply_1 : decode c_De_multiply 1 = .ok (.lstore_n 3, 1) := by decide +kernel
theorem d_De_multiply_2 : decode c_De_multiply 2 = .ok (.iconst 0, 1) := by decide +kernel
theorem d_De_multiply_3 : decode c_De_multiply 3 = .ok (.istore 5, 2) := by decide +kernel
theorem d_De_multiply_5 : decode c_De_multiply 5 = .ok (.iload 5, 2) := by decide +kernel
theorem d_De_multiply_7 : decode c_De_multiply 7 = .ok (.aload_n 0, 1) := by decide +kernel
theorem d_De_multiply_8 : decode c_De_multiply 8 = .ok (.getfield 13, 3) := by decide +kernel
theorem d_De_multiply_11 : decode c_De_multiply 11 = .ok (.if_icmp .ge 44, 3) := by decide +kernel
theorem d_De_multiply_14 : decode c_De_multiply 14 = .ok (.aload_n 0, 1) := by decide +kernel
theorem d_De_multiply_15 : decode c_De_multiply 15 = .ok (.getfield 9, 3) := by decide +kernel
theorem d_De_multiply_18 : decode c_De_multiply 18 = .ok (.iload 5, 2) := by decide +kernel
theorem d_De_multiply_20 : decode c_De_multiply 20 = .ok (.laload, 1) := by decide +kernel
theorem d_De_multiply_21 : decode c_De_multiply 21 = .ok (.lload_n 1, 1) := by decide +kernel
theorem d_De_multiply_22 : decode c_De_multiply 22 = .ok (.lmul, 1) := by decide +kernel
theorem d_De_multiply_23 : decode c_De_multiply 23 = .ok (.lload_n 3, 1) := by decide +kernel
theorem d_De_multiply_24 : decode c_De_multiply 24 = .ok (.ladd, 1) := by decide +kernel
theorem d_De_multiply_25 : decode c_De_multiply 25 = .ok (.lstore 6, 2) := by decide +kernel
theorem d_De_multiply_27 : decode c_De_multiply 27 = .ok (.lload 6, 2) := by decide +kernel
theorem d_De_multiply_29 : decode c_De_multiply 29 = .ok (.ldc2_w 30, 3) := by decide +kernel
theorem d_De_multiply_32 : decode c_De_multiply 32 = .ok (.ldiv, 1) := by decide +kernel
theorem d_De_multiply_33 : decode c_De_multiply 33 = .ok (.lstore_n 3, 1) := by decide +kernel
theorem d_De_multiply_34 : decode c_De_multiply 34 = .ok (.aload_n 0, 1) := by decide +kernel
theorem d_De_multiply_35 : decode c_De_multiply 35 = .ok (.getfield 9, 3) := by decide +kernel
theorem d_De_multiply_38 : decode c_De_multiply 38 = .ok (.iload 5, 2) := by decide +kernel
theorem d_De_multiply_40 : decode c_De_multiply 40 = .ok (.lload 6, 2) := by decide +kernel
theorem d_De_multiply_42 : decode c_De_multiply 42 = .ok (.lload_n 3, 1) := by decide +kernel
theorem d_De_multiply_43 : decode c_De_multiply 43 = .ok (.ldc2_w 30, 3) := by decide +kernel
theorem d_De_multiply_46 : decode c_De_multiply 46 = .ok (.lmul, 1) := by decide +kernel
theorem d_De_multiply_47 : decode c_De_multiply 47 = .ok (.lsub, 1) := by decide +kernel
theorem d_De_multiply_48 : decode c_De_multiply 48 = .ok (.lastore, 1) := by decide +kernel
theorem d_De_multiply_49 : decode c_De_multiply 49 = .ok (.iinc 5 1, 3) := by decide +kernel
theorem d_De_multiply_52 : decode c_De_multiply 52 = .ok (.goto (-47), 3) := by decide +kernel
theorem d_De_multiply_55 : decode c_De_multiply 55 = .ok (.lload_n 3, 1) := by decide +kernel
theorem d_De_multiply_56 : decode c_De_multiply 56 = .ok (.lconst 0, 1) := by decide +kernel
theorem d_De_multiply_57 : decode c_De_multiply 57 = .ok (.lcmp, 1) := by decide +kernel
theorem d_De_multiply_58 : decode c_De_multiply 58 = .ok (.ifCond .eq 35, 3) := by decide +kernel
theorem d_De_multiply_61 : decode c_De_multiply 61 = .ok (.aload_n 0, 1) := by decide +kernel
theorem d_De_multiply_62 : decode c_De_multiply 62 = .ok (.getfield 13, 3) := by decide +kernel
theorem d_De_multiply_65 : decode c_De_multiply 65 = .ok (.aload_n 0, 1) := by decide +kernel
theorem d_De_multiply_66 : decode c_De_multiply 66 = .ok (.getfield 9, 3) := by decide +kernel
theorem d_De_multiply_69 : decode c_De_multiply 69 = .ok (.arraylength, 1) := by decide +kernel
theorem d_De_multiply_70 : decode c_De_multiply 70 = .ok (.if_icmp .ge 23, 3) := by decide +kernel
theorem d_De_multiply_73 : decode c_De_multiply 73 = .ok (.aload_n 0, 1) := by decide +kernel
theorem d_De_multiply_74 : decode c_De_multiply 74 = .ok (.getfield 9, 3) := by decide +kernel
theorem d_De_multiply_77 : decode c_De_multiply 77 = .ok (.aload_n 0, 1) := by decide +kernel
theorem d_De_multiply_78 : decode c_De_multiply 78 = .ok (.getfield 13, 3) := by decide +kernel
theorem d_De_multiply_81 : decode c_De_multiply 81 = .ok (.lload_n 3, 1) := by decide +kernel
theorem d_De_multiply_82 : decode c_De_multiply 82 = .ok (.lastore, 1) := by decide +kernel
theorem d_De_multiply_83 : decode c_De_multiply 83 = .ok (.aload_n 0, 1) := by decide +kernel
theorem d_De_multiply_84 : decode c_De_multiply 84 = .ok (.dup, 1) := by decide +kernel
theorem d_De_multiply_85 : decode c_De_multiply 85 = .ok (.getfield 13, 3) := by decide +kernel
theorem d_De_multiply_88 : decode c_De_multiply 88 = .ok (.iconst 1, 1) := by decide +kernel
theorem d_De_multiply_89 : decode c_De_multiply 89 = .ok (.iadd, 1) := by decide +kernel
theorem d_De_multiply_90 : decode c_De_multiply 90 = .ok (.putfield 13, 3) := by decide +kernel
theorem d_De_multiply_93 : decode c_De_multiply 93 = .ok (.return_, 1) := by decide +kernel
theorem d_De_spell_0 : decode c_De_spell 0 = .ok (.aload_n 0, 1) := by decide +kernel
theorem d_De_spell_1 : decode c_De_spell 1 = .ok (.bipush 9, 2) := by decide +kernel
theorem d_De_spell_3 : decode c_De_spell 3 = .ok (.aload_n 0, 1) := by decide +kernel
theorem d_De_spell_4 : decode c_De_spell 4 = .ok (.getfield 13, 3) := by decide +kernel
theorem d_De_spell_7 : decode c_De_spell 7 = .ok (.iconst 1, 1) := by decide +kernel
theorem d_De_spell_8 : decode c_De_spell 8 = .ok (.isub, 1) := by decide +kernel
theorem d_De_spell_9 : decode c_De_spell 9 = .ok (.imul, 1) := by decide +kernel
theorem d_De_spell_10 : decode c_De_spell 10 = .ok (.putfield 21, 3) := by decide +kernel
theorem d_De_spell_13 : decode c_De_spell 13 = .ok (.aload_n 0, 1) := by decide +kernel
theorem d_De_spell_14 : decode c_De_spell 14 = .ok (.getfield 9, 3) := by decide +kernel
theorem d_De_spell_17 : decode c_De_spell 17 = .ok (.aload_n 0, 1) := by decide +kernel
theorem d_De_spell_18 : decode c_De_spell 18 = .ok (.getfield 13, 3) := by decide +kernel
theorem d_De_spell_21 : decode c_De_spell 21 = .ok (.iconst 1, 1) := by decide +kernel
theorem d_De_spell_22 : decode c_De_spell 22 = .ok (.isub, 1) := by decide +kernel
theorem d_De_spell_23 : decode c_De_spell 23 = .ok (.laload, 1) := by decide +kernel
theorem d_De_spell_24 : decode c_De_spell 24 = .ok (.lstore_n 1, 1) := by decide +kernel
theorem d_De_spell_25 : decode c_De_spell 25 = .ok (.iconst 0, 1) := by decide +kernel
theorem d_De_spell_26 : decode c_De_spell 26 = .ok (.istore_n 3, 1) := by decide +kernel
theorem d_De_spell_27 : decode c_De_spell 27 = .ok (.iload_n 3, 1) := by decide +kernel
theorem d_De_spell_28 : decode c_De_spell 28 = .ok (.bipush 9, 2) := by decide +kernel
theorem d_De_spell_30 : decode c_De_spell 30 = .ok (.if_icmp .ge 31, 3) := by decide +kernel
theorem d_De_spell_33 : decode c_De_spell 33 = .ok (.lload_n 1, 1) := by decide +kernel
theorem d_De_spell_34 : decode c_De_spell 34 = .ok (.lconst 0, 1) := by decide +kernel
theorem d_De_spell_35 : decode c_De_spell 35 = .ok (.lcmp, 1) := by decide +kernel
theorem d_De_spell_36 : decode c_De_spell 36 = .ok (.ifCond .le 25, 3) := by decide +kernel
theorem d_De_spell_39 : decode c_De_spell 39 = .ok (.aload_n 0, 1) := by decide +kernel
theorem d_De_spell_40 : decode c_De_spell 40 = .ok (.dup, 1) := by decide +kernel
theorem d_De_spell_41 : decode c_De_spell 41 = .ok (.getfield 21, 3) := by decide +kernel
theorem d_De_spell_44 : decode c_De_spell 44 = .ok (.iconst 1, 1) := by decide +kernel
theorem d_De_spell_45 : decode c_De_spell 45 = .ok (.iadd, 1) := by decide +kernel
theorem d_De_spell_46 : decode c_De_spell 46 = .ok (.putfield 21, 3) := by decide +kernel
theorem d_De_spell_49 : decode c_De_spell 49 = .ok (.lload_n 1, 1) := by decide +kernel
theorem d_De_spell_50 : decode c_De_spell 50 = .ok (.ldc2_w 48, 3) := by decide +kernel
theorem d_De_spell_53 : decode c_De_spell 53 = .ok (.ldiv, 1) := by decide +kernel
theorem d_De_spell_54 : decode c_De_spell 54 = .ok (.lstore_n 1, 1) := by decide +kernel
theorem d_De_spell_55 : decode c_De_spell 55 = .ok (.iinc 3 1, 3) := by decide +kernel
theorem d_De_spell_58 : decode c_De_spell 58 = .ok (.goto (-31), 3) := by decide +kernel
theorem d_De_spell_61 : decode c_De_spell 61 = .ok (.iconst 0, 1) := by decide +kernel
theorem d_De_spell_62 : decode c_De_spell 62 = .ok (.istore_n 3, 1) := by decide +kernel
theorem d_De_spell_63 : decode c_De_spell 63 = .ok (.iload_n 3, 1) := by decide +kernel
theorem d_De_spell_64 : decode c_De_spell 64 = .ok (.aload_n 0, 1) := by decide +kernel
theorem d_De_spell_65 : decode c_De_spell 65 = .ok (.getfield 21, 3) := by decide +kernel
theorem d_De_spell_68 : decode c_De_spell 68 = .ok (.if_icmp .ge 52, 3) := by decide +kernel
theorem d_De_spell_71 : decode c_De_spell 71 = .ok (.iload_n 3, 1) := by decide +kernel
theorem d_De_spell_72 : decode c_De_spell 72 = .ok (.bipush 9, 2) := by decide +kernel
theorem d_De_spell_74 : decode c_De_spell 74 = .ok (.irem, 1) := by decide +kernel
theorem d_De_spell_75 : decode c_De_spell 75 = .ok (.ifCond .ne 13, 3) := by decide +kernel
theorem d_De_spell_78 : decode c_De_spell 78 = .ok (.aload_n 0, 1) := by decide +kernel
theorem d_De_spell_79 : decode c_De_spell 79 = .ok (.getfield 9, 3) := by decide +kernel
theorem d_De_spell_82 : decode c_De_spell 82 = .ok (.iload_n 3, 1) := by decide +kernel
theorem d_De_spell_83 : decode c_De_spell 83 = .ok (.bipush 9, 2) := by decide +kernel
theorem d_De_spell_85 : decode c_De_spell 85 = .ok (.idiv, 1) := by decide +kernel
theorem d_De_spell_86 : decode c_De_spell 86 = .ok (.laload, 1) := by decide +kernel
theorem d_De_spell_87 : decode c_De_spell 87 = .ok (.lstore_n 1, 1) := by decide +kernel
theorem d_De_spell_88 : decode c_De_spell 88 = .ok (.aload_n 0, 1) := by decide +kernel
theorem d_De_spell_89 : decode c_De_spell 89 = .ok (.getfield 17, 3) := by decide +kernel
theorem d_De_spell_92 : decode c_De_spell 92 = .ok (.aload_n 0, 1) := by decide +kernel
theorem d_De_spell_93 : decode c_De_spell 93 = .ok (.getfield 21, 3) := by decide +kernel
theorem d_De_spell_96 : decode c_De_spell 96 = .ok (.iconst 1, 1) := by decide +kernel
theorem d_De_spell_97 : decode c_De_spell 97 = .ok (.isub, 1) := by decide +kernel
theorem d_De_spell_98 : decode c_De_spell 98 = .ok (.iload_n 3, 1) := by decide +kernel
theorem d_De_spell_99 : decode c_De_spell 99 = .ok (.isub, 1) := by decide +kernel
theorem d_De_spell_100 : decode c_De_spell 100 = .ok (.lload_n 1, 1) := by decide +kernel
theorem d_De_spell_101 : decode c_De_spell 101 = .ok (.ldc2_w 48, 3) := by decide +kernel
theorem d_De_spell_104 : decode c_De_spell 104 = .ok (.lrem, 1) := by decide +kernel
theorem d_De_spell_105 : decode c_De_spell 105 = .ok (.l2i, 1) := by decide +kernel
theorem d_De_spell_106 : decode c_De_spell 106 = .ok (.i2b, 1) := by decide +kernel
theorem d_De_spell_107 : decode c_De_spell 107 = .ok (.bastore, 1) := by decide +kernel
theorem d_De_spell_108 : decode c_De_spell 108 = .ok (.lload_n 1, 1) := by decide +kernel
theorem d_De_spell_109 : decode c_De_spell 109 = .ok (.ldc2_w 48, 3) := by decide +kernel
theorem d_De_spell_112 : decode c_De_spell 112 = .ok (.ldiv, 1) := by decide +kernel
theorem d_De_spell_113 : decode c_De_spell 113 = .ok (.lstore_n 1, 1) := by decide +kernel
theorem d_De_spell_114 : decode c_De_spell 114 = .ok (.iinc 3 1, 3) := by decide +kernel
theorem d_De_spell_117 : decode c_De_spell 117 = .ok (.goto (-54), 3) := by decide +kernel
theorem d_De_spell_120 : decode c_De_spell 120 = .ok (.return_, 1) := by decide +kernel
theorem d_De_digitAt_0 : decode c_De_digitAt 0 = .ok (.iload_n 1, 1) := by decide +kernel
theorem d_De_digitAt_1 : decode c_De_digitAt 1 = .ok (.ifCond .lt 20, 3) := by decide +kernel
theorem d_De_digitAt_4 : decode c_De_digitAt 4 = .ok (.iload_n 1, 1) := by decide +kernel
theorem d_De_digitAt_5 : decode c_De_digitAt 5 = .ok (.aload_n 0, 1) := by decide +kernel
theorem d_De_digitAt_6 : decode c_De_digitAt 6 = .ok (.getfield 21, 3) := by decide +kernel
theorem d_De_digitAt_9 : decode c_De_digitAt 9 = .ok (.if_icmp .ge 12, 3) := by decide +kernel
theorem d_De_digitAt_12 : decode c_De_digitAt 12 = .ok (.aload_n 0, 1) := by decide +kernel
theorem d_De_digitAt_13 : decode c_De_digitAt 13 = .ok (.getfield 17, 3) := by decide +kernel
theorem d_De_digitAt_16 : decode c_De_digitAt 16 = .ok (.iload_n 1, 1) := by decide +kernel
theorem d_De_digitAt_17 : decode c_De_digitAt 17 = .ok (.baload, 1) := by decide +kernel
theorem d_De_digitAt_18 : decode c_De_digitAt 18 = .ok (.goto 4, 3) := by decide +kernel
theorem d_De_digitAt_21 : decode c_De_digitAt 21 = .ok (.iconst 0, 1) := by decide +kernel
theorem d_De_digitAt_22 : decode c_De_digitAt 22 = .ok (.ireturn, 1) := by decide +kernel
theorem d_De_neededFrom_0 : decode c_De_neededFrom 0 = .ok (.aload_n 0, 1) := by decide +kernel
theorem d_De_neededFrom_1 : decode c_De_neededFrom 1 = .ok (.getfield 21, 3) := by decide +kernel
theorem d_De_neededFrom_4 : decode c_De_neededFrom 4 = .ok (.iconst 1, 1) := by decide +kernel
theorem d_De_neededFrom_5 : decode c_De_neededFrom 5 = .ok (.isub, 1) := by decide +kernel
theorem d_De_neededFrom_6 : decode c_De_neededFrom 6 = .ok (.istore_n 2, 1) := by decide +kernel
theorem d_De_neededFrom_7 : decode c_De_neededFrom 7 = .ok (.iload_n 2, 1) := by decide +kernel
theorem d_De_neededFrom_8 : decode c_De_neededFrom 8 = .ok (.ifCond .lt 29, 3) := by decide +kernel
theorem d_De_neededFrom_11 : decode c_De_neededFrom 11 = .ok (.iload_n 2, 1) := by decide +kernel
theorem d_De_neededFrom_12 : decode c_De_neededFrom 12 = .ok (.iload_n 1, 1) := by decide +kernel
theorem d_De_neededFrom_13 : decode c_De_neededFrom 13 = .ok (.if_icmp .lt 24, 3) := by decide +kernel
theorem d_De_neededFrom_16 : decode c_De_neededFrom 16 = .ok (.aload_n 0, 1) := by decide +kernel
theorem d_De_neededFrom_17 : decode c_De_neededFrom 17 = .ok (.getfield 17, 3) := by decide +kernel
theorem d_De_neededFrom_20 : decode c_De_neededFrom 20 = .ok (.iload_n 2, 1) := by decide +kernel
theorem d_De_neededFrom_21 : decode c_De_neededFrom 21 = .ok (.baload, 1) := by decide +kernel
theorem d_De_neededFrom_22 : decode c_De_neededFrom 22 = .ok (.ifCond .eq 9, 3) := by decide +kernel
theorem d_De_neededFrom_25 : decode c_De_neededFrom 25 = .ok (.iload_n 2, 1) := by decide +kernel
theorem d_De_neededFrom_26 : decode c_De_neededFrom 26 = .ok (.iconst 1, 1) := by decide +kernel
theorem d_De_neededFrom_27 : decode c_De_neededFrom 27 = .ok (.iadd, 1) := by decide +kernel
theorem d_De_neededFrom_28 : decode c_De_neededFrom 28 = .ok (.iload_n 1, 1) := by decide +kernel
theorem d_De_neededFrom_29 : decode c_De_neededFrom 29 = .ok (.isub, 1) := by decide +kernel
theorem d_De_neededFrom_30 : decode c_De_neededFrom 30 = .ok (.ireturn, 1) := by decide +kernel
theorem d_De_neededFrom_31 : decode c_De_neededFrom 31 = .ok (.iinc 2 (-1), 3) := by decide +kernel
theorem d_De_neededFrom_34 : decode c_De_neededFrom 34 = .ok (.goto (-27), 3) := by decide +kernel
theorem d_De_neededFrom_37 : decode c_De_neededFrom 37 = .ok (.iconst 0, 1) := by decide +kernel
theorem d_De_neededFrom_38 : decode c_De_neededFrom 38 = .ok (.ireturn, 1) := by decide +kernel
theorem d_De_round_0 : decode c_De_round 0 = .ok (.iload_n 1, 1) := by decide +kernel
theorem d_De_round_1 : decode c_De_round 1 = .ok (.aload_n 0, 1) := by decide +kernel
theorem d_De_round_2 : decode c_De_round 2 = .ok (.getfield 21, 3) := by decide +kernel
theorem d_De_round_5 : decode c_De_round 5 = .ok (.if_icmp .lt 4, 3) := by decide +kernel
theorem d_De_round_8 : decode c_De_round 8 = .ok (.return_, 1) := by decide +kernel
theorem d_De_round_9 : decode c_De_round 9 = .ok (.iload_n 1, 1) := by decide +kernel
theorem d_De_round_10 : decode c_De_round 10 = .ok (.ifCond .ge 8, 3) := by decide +kernel
theorem d_De_round_13 : decode c_De_round 13 = .ok (.aload_n 0, 1) := by decide +kernel
theorem d_De_round_14 : decode c_De_round 14 = .ok (.invokevirtual 27, 3) := by decide +kernel
theorem d_De_round_17 : decode c_De_round 17 = .ok (.return_, 1) := by decide +kernel
theorem d_De_round_18 : decode c_De_round 18 = .ok (.aload_n 0, 1) := by decide +kernel
theorem d_De_round_19 : decode c_De_round 19 = .ok (.getfield 17, 3) := by decide +kernel
theorem d_De_round_22 : decode c_De_round 22 = .ok (.iload_n 1, 1) := by decide +kernel
theorem d_De_round_23 : decode c_De_round 23 = .ok (.baload, 1) := by decide +kernel
theorem d_De_round_24 : decode c_De_round 24 = .ok (.istore_n 2, 1) := by decide +kernel
theorem d_De_round_25 : decode c_De_round 25 = .ok (.iload_n 2, 1) := by decide +kernel
theorem d_De_round_26 : decode c_De_round 26 = .ok (.iconst 5, 1) := by decide +kernel
theorem d_De_round_27 : decode c_De_round 27 = .ok (.if_icmp .ne 17, 3) := by decide +kernel
theorem d_De_round_30 : decode c_De_round 30 = .ok (.aload_n 0, 1) := by decide +kernel
theorem d_De_round_31 : decode c_De_round 31 = .ok (.iload_n 1, 1) := by decide +kernel
theorem d_De_round_32 : decode c_De_round 32 = .ok (.iconst 1, 1) := by decide +kernel
theorem d_De_round_33 : decode c_De_round 33 = .ok (.iadd, 1) := by decide +kernel
theorem d_De_round_34 : decode c_De_round 34 = .ok (.invokevirtual 50, 3) := by decide +kernel
theorem d_De_round_37 : decode c_De_round 37 = .ok (.ifCond .ne 7, 3) := by decide +kernel
theorem d_De_round_40 : decode c_De_round 40 = .ok (.iconst 1, 1) := by decide +kernel
theorem d_De_round_41 : decode c_De_round 41 = .ok (.goto 4, 3) := by decide +kernel
theorem d_De_round_44 : decode c_De_round 44 = .ok (.iconst 0, 1) := by decide +kernel
theorem d_De_round_45 : decode c_De_round 45 = .ok (.istore_n 3, 1) := by decide +kernel
theorem d_De_round_46 : decode c_De_round 46 = .ok (.iload_n 3, 1) := by decide +kernel
theorem d_De_round_47 : decode c_De_round 47 = .ok (.ifCond .eq 24, 3) := by decide +kernel
theorem d_De_round_50 : decode c_De_round 50 = .ok (.aload_n 0, 1) := by decide +kernel
theorem d_De_round_51 : decode c_De_round 51 = .ok (.iload_n 1, 1) := by decide +kernel
theorem d_De_round_52 : decode c_De_round 52 = .ok (.iconst 1, 1) := by decide +kernel
theorem d_De_round_53 : decode c_De_round 53 = .ok (.isub, 1) := by decide +kernel
theorem d_De_round_54 : decode c_De_round 54 = .ok (.invokevirtual 54, 3) := by decide +kernel
theorem d_De_round_57 : decode c_De_round 57 = .ok (.iconst 2, 1) := by decide +kernel
theorem d_De_round_58 : decode c_De_round 58 = .ok (.irem, 1) := by decide +kernel
theorem d_De_round_59 : decode c_De_round 59 = .ok (.iconst 1, 1) := by decide +kernel
theorem d_De_round_60 : decode c_De_round 60 = .ok (.if_icmp .ne 7, 3) := by decide +kernel
theorem d_De_round_63 : decode c_De_round 63 = .ok (.iconst 1, 1) := by decide +kernel
theorem d_De_round_64 : decode c_De_round 64 = .ok (.goto 17, 3) := by decide +kernel
theorem d_De_round_67 : decode c_De_round 67 = .ok (.iconst 0, 1) := by decide +kernel
theorem d_De_round_68 : decode c_De_round 68 = .ok (.goto 13, 3) := by decide +kernel
theorem d_De_round_71 : decode c_De_round 71 = .ok (.iload_n 2, 1) := by decide +kernel
theorem d_De_round_72 : decode c_De_round 72 = .ok (.iconst 5, 1) := by decide +kernel
theorem d_De_round_73 : decode c_De_round 73 = .ok (.if_icmp .lt 7, 3) := by decide +kernel
theorem d_De_round_76 : decode c_De_round 76 = .ok (.iconst 1, 1) := by decide +kernel
theorem d_De_round_77 : decode c_De_round 77 = .ok (.goto 4, 3) := by decide +kernel
theorem d_De_round_80 : decode c_De_round 80 = .ok (.iconst 0, 1) := by decide +kernel
theorem d_De_round_81 : decode c_De_round 81 = .ok (.istore 4, 2) := by decide +kernel
theorem d_De_round_83 : decode c_De_round 83 = .ok (.aload_n 0, 1) := by decide +kernel
theorem d_De_round_84 : decode c_De_round 84 = .ok (.iload_n 1, 1) := by decide +kernel
theorem d_De_round_85 : decode c_De_round 85 = .ok (.putfield 21, 3) := by decide +kernel
theorem d_De_round_88 : decode c_De_round 88 = .ok (.iload 4, 2) := by decide +kernel
theorem d_De_round_90 : decode c_De_round 90 = .ok (.ifCond .eq 10, 3) := by decide +kernel
theorem d_De_round_93 : decode c_De_round 93 = .ok (.aload_n 0, 1) := by decide +kernel
theorem d_De_round_94 : decode c_De_round 94 = .ok (.invokevirtual 57, 3) := by decide +kernel
theorem d_De_round_97 : decode c_De_round 97 = .ok (.goto 11, 3) := by decide +kernel
theorem d_De_round_100 : decode c_De_round 100 = .ok (.iload_n 1, 1) := by decide +kernel
theorem d_De_round_101 : decode c_De_round 101 = .ok (.ifCond .ne 7, 3) := by decide +kernel
theorem d_De_round_104 : decode c_De_round 104 = .ok (.aload_n 0, 1) := by decide +kernel
theorem d_De_round_105 : decode c_De_round 105 = .ok (.invokevirtual 27, 3) := by decide +kernel
theorem d_De_round_108 : decode c_De_round 108 = .ok (.return_, 1) := by decide +kernel
theorem d_De_addOneAtTheEnd_0 : decode c_De_addOneAtTheEnd 0 = .ok (.aload_n 0, 1) := by decide +kernel
theorem d_De_addOneAtTheEnd_1 : decode c_De_addOneAtTheEnd 1 = .ok (.getfield 21, 3) := by decide +kernel
theorem d_De_addOneAtTheEnd_4 : decode c_De_addOneAtTheEnd 4 = .ok (.iconst 1, 1) := by decide +kernel
theorem d_De_addOneAtTheEnd_5 : decode c_De_addOneAtTheEnd 5 = .ok (.isub, 1) := by decide +kernel
theorem d_De_addOneAtTheEnd_6 : decode c_De_addOneAtTheEnd 6 = .ok (.istore_n 1, 1) := by decide +kernel
theorem d_De_addOneAtTheEnd_7 : decode c_De_addOneAtTheEnd 7 = .ok (.iload_n 1, 1) := by decide +kernel
theorem d_De_addOneAtTheEnd_8 : decode c_De_addOneAtTheEnd 8 = .ok (.ifCond .lt 39, 3) := by decide +kernel
theorem d_De_addOneAtTheEnd_11 : decode c_De_addOneAtTheEnd 11 = .ok (.aload_n 0, 1) := by decide +kernel
theorem d_De_addOneAtTheEnd_12 : decode c_De_addOneAtTheEnd 12 = .ok (.getfield 17, 3) := by decide +kernel
theorem d_De_addOneAtTheEnd_15 : decode c_De_addOneAtTheEnd 15 = .ok (.iload_n 1, 1) := by decide +kernel
theorem d_De_addOneAtTheEnd_16 : decode c_De_addOneAtTheEnd 16 = .ok (.baload, 1) := by decide +kernel
theorem d_De_addOneAtTheEnd_17 : decode c_De_addOneAtTheEnd 17 = .ok (.bipush 9, 2) := by decide +kernel
theorem d_De_addOneAtTheEnd_19 : decode c_De_addOneAtTheEnd 19 = .ok (.if_icmp .ge 22, 3) := by decide +kernel
theorem d_De_addOneAtTheEnd_22 : decode c_De_addOneAtTheEnd 22 = .ok (.aload_n 0, 1) := by decide +kernel
theorem d_De_addOneAtTheEnd_23 : decode c_De_addOneAtTheEnd 23 = .ok (.getfield 17, 3) := by decide +kernel
theorem d_De_addOneAtTheEnd_26 : decode c_De_addOneAtTheEnd 26 = .ok (.iload_n 1, 1) := by decide +kernel
theorem d_De_addOneAtTheEnd_27 : decode c_De_addOneAtTheEnd 27 = .ok (.dup2, 1) := by decide +kernel
theorem d_De_addOneAtTheEnd_28 : decode c_De_addOneAtTheEnd 28 = .ok (.baload, 1) := by decide +kernel
theorem d_De_addOneAtTheEnd_29 : decode c_De_addOneAtTheEnd 29 = .ok (.iconst 1, 1) := by decide +kernel
theorem d_De_addOneAtTheEnd_30 : decode c_De_addOneAtTheEnd 30 = .ok (.iadd, 1) := by decide +kernel
theorem d_De_addOneAtTheEnd_31 : decode c_De_addOneAtTheEnd 31 = .ok (.i2b, 1) := by decide +kernel
theorem d_De_addOneAtTheEnd_32 : decode c_De_addOneAtTheEnd 32 = .ok (.bastore, 1) := by decide +kernel
theorem d_De_addOneAtTheEnd_33 : decode c_De_addOneAtTheEnd 33 = .ok (.aload_n 0, 1) := by decide +kernel
theorem d_De_addOneAtTheEnd_34 : decode c_De_addOneAtTheEnd 34 = .ok (.iload_n 1, 1) := by decide +kernel
theorem d_De_addOneAtTheEnd_35 : decode c_De_addOneAtTheEnd 35 = .ok (.iconst 1, 1) := by decide +kernel
theorem d_De_addOneAtTheEnd_36 : decode c_De_addOneAtTheEnd 36 = .ok (.iadd, 1) := by decide +kernel
theorem d_De_addOneAtTheEnd_37 : decode c_De_addOneAtTheEnd 37 = .ok (.putfield 21, 3) := by decide +kernel
theorem d_De_addOneAtTheEnd_40 : decode c_De_addOneAtTheEnd 40 = .ok (.return_, 1) := by decide +kernel
theorem d_De_addOneAtTheEnd_41 : decode c_De_addOneAtTheEnd 41 = .ok (.iinc 1 (-1), 3) := by decide +kernel
theorem d_De_addOneAtTheEnd_44 : decode c_De_addOneAtTheEnd 44 = .ok (.goto (-37), 3) := by decide +kernel
theorem d_De_addOneAtTheEnd_47 : decode c_De_addOneAtTheEnd 47 = .ok (.aload_n 0, 1) := by decide +kernel
theorem d_De_addOneAtTheEnd_48 : decode c_De_addOneAtTheEnd 48 = .ok (.getfield 17, 3) := by decide +kernel
theorem d_De_addOneAtTheEnd_51 : decode c_De_addOneAtTheEnd 51 = .ok (.iconst 0, 1) := by decide +kernel
theorem d_De_addOneAtTheEnd_52 : decode c_De_addOneAtTheEnd 52 = .ok (.iconst 1, 1) := by decide +kernel
theorem d_De_addOneAtTheEnd_53 : decode c_De_addOneAtTheEnd 53 = .ok (.bastore, 1) := by decide +kernel
theorem d_De_addOneAtTheEnd_54 : decode c_De_addOneAtTheEnd 54 = .ok (.aload_n 0, 1) := by decide +kernel
theorem d_De_addOneAtTheEnd_55 : decode c_De_addOneAtTheEnd 55 = .ok (.iconst 1, 1) := by decide +kernel
theorem d_De_addOneAtTheEnd_56 : decode c_De_addOneAtTheEnd 56 = .ok (.putfield 21, 3) := by decide +kernel
theorem d_De_addOneAtTheEnd_59 : decode c_De_addOneAtTheEnd 59 = .ok (.aload_n 0, 1) := by decide +kernel
theorem d_De_addOneAtTheEnd_60 : decode c_De_addOneAtTheEnd 60 = .ok (.dup, 1) := by decide +kernel
theorem d_De_addOneAtTheEnd_61 : decode c_De_addOneAtTheEnd 61 = .ok (.getfield 24, 3) := by decide +kernel
theorem d_De_addOneAtTheEnd_64 : decode c_De_addOneAtTheEnd 64 = .ok (.iconst 1, 1) := by decide +kernel
theorem d_De_addOneAtTheEnd_65 : decode c_De_addOneAtTheEnd 65 = .ok (.iadd, 1) := by decide +kernel
theorem d_De_addOneAtTheEnd_66 : decode c_De_addOneAtTheEnd 66 = .ok (.putfield 24, 3) := by decide +kernel
theorem d_De_addOneAtTheEnd_69 : decode c_De_addOneAtTheEnd 69 = .ok (.return_, 1) := by decide +kernel
