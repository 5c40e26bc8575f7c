theorem d_Mo_real_218 : decode c_Mo_real 218 = .ok (.bipush 6, 2) := by decide +kernel
theorem d_Mo_real_220 : decode c_Mo_real 220 = .ok (.goto 7, 3) := by decide +kernel
theorem d_Mo_real_223 : decode c_Mo_real 223 = .ok (.aload_n 0, 1) := by decide +kernel
theorem d_Mo_real_224 : decode c_Mo_real 224 = .ok (.getfield 94, 3) := by decide +kernel
theorem d_Mo_real_227 : decode c_Mo_real 227 = .ok (.istore 9, 2) := by decide +kernel
theorem d_Mo_real_229 : decode c_Mo_real 229 = .ok (.iload 5, 2) := by decide +kernel
theorem d_Mo_real_231 : decode c_Mo_real 231 = .ok (.bipush 102, 2) := by decide +kernel
theorem d_Mo_real_233 : decode c_Mo_real 233 = .ok (.if_icmp .ne 12, 3) := by decide +kernel
theorem d_Mo_real_236 : decode c_Mo_real 236 = .ok (.aload_n 0, 1) := by decide +kernel
theorem d_Mo_real_237 : decode c_Mo_real 237 = .ok (.iload 9, 2) := by decide +kernel
theorem d_Mo_real_239 : decode c_Mo_real 239 = .ok (.invokevirtual 203, 3) := by decide +kernel
theorem d_Mo_real_242 : decode c_Mo_real 242 = .ok (.goto 29, 3) := by decide +kernel
theorem d_Mo_real_245 : decode c_Mo_real 245 = .ok (.iload 5, 2) := by decide +kernel
theorem d_Mo_real_247 : decode c_Mo_real 247 = .ok (.bipush 101, 2) := by decide +kernel
theorem d_Mo_real_249 : decode c_Mo_real 249 = .ok (.if_icmp .ne 14, 3) := by decide +kernel
theorem d_Mo_real_252 : decode c_Mo_real 252 = .ok (.aload_n 0, 1) := by decide +kernel
theorem d_Mo_real_253 : decode c_Mo_real 253 = .ok (.iload 9, 2) := by decide +kernel
theorem d_Mo_real_255 : decode c_Mo_real 255 = .ok (.iload 4, 2) := by decide +kernel
theorem d_Mo_real_257 : decode c_Mo_real 257 = .ok (.invokevirtual 206, 3) := by decide +kernel
theorem d_Mo_real_260 : decode c_Mo_real 260 = .ok (.goto 11, 3) := by decide +kernel
theorem d_Mo_real_263 : decode c_Mo_real 263 = .ok (.aload_n 0, 1) := by decide +kernel
theorem d_Mo_real_264 : decode c_Mo_real 264 = .ok (.iload 9, 2) := by decide +kernel
theorem d_Mo_real_266 : decode c_Mo_real 266 = .ok (.iload 4, 2) := by decide +kernel
theorem d_Mo_real_268 : decode c_Mo_real 268 = .ok (.invokevirtual 234, 3) := by decide +kernel
theorem d_Mo_real_271 : decode c_Mo_real 271 = .ok (.return_, 1) := by decide +kernel
theorem d_Mo_wrong_0 : decode c_Mo_wrong 0 = .ok (.aload_n 0, 1) := by decide +kernel
theorem d_Mo_wrong_1 : decode c_Mo_wrong 1 = .ok (.iconst 0, 1) := by decide +kernel
theorem d_Mo_wrong_2 : decode c_Mo_wrong 2 = .ok (.putfield 39, 3) := by decide +kernel
theorem d_Mo_wrong_5 : decode c_Mo_wrong 5 = .ok (.aload_n 0, 1) := by decide +kernel
theorem d_Mo_wrong_6 : decode c_Mo_wrong 6 = .ok (.getfield 7, 3) := by decide +kernel
theorem d_Mo_wrong_9 : decode c_Mo_wrong 9 = .ok (.ireturn, 1) := by decide +kernel
theorem d_Mo_letters_0 : decode c_Mo_letters 0 = .ok (.aload_n 0, 1) := by decide +kernel
theorem d_Mo_letters_1 : decode c_Mo_letters 1 = .ok (.iconst 0, 1) := by decide +kernel
theorem d_Mo_letters_2 : decode c_Mo_letters 2 = .ok (.putfield 39, 3) := by decide +kernel
theorem d_Mo_letters_5 : decode c_Mo_letters 5 = .ok (.aload_n 0, 1) := by decide +kernel
theorem d_Mo_letters_6 : decode c_Mo_letters 6 = .ok (.iload_n 1, 1) := by decide +kernel
theorem d_Mo_letters_7 : decode c_Mo_letters 7 = .ok (.ifCond .lt 17, 3) := by decide +kernel
theorem d_Mo_letters_10 : decode c_Mo_letters 10 = .ok (.iload_n 1, 1) := by decide +kernel
theorem d_Mo_letters_11 : decode c_Mo_letters 11 = .ok (.aload_n 0, 1) := by decide +kernel
theorem d_Mo_letters_12 : decode c_Mo_letters 12 = .ok (.getfield 119, 3) := by decide +kernel
theorem d_Mo_letters_15 : decode c_Mo_letters 15 = .ok (.bipush 7, 2) := by decide +kernel
theorem d_Mo_letters_17 : decode c_Mo_letters 17 = .ok (.iadd, 1) := by decide +kernel
theorem d_Mo_letters_18 : decode c_Mo_letters 18 = .ok (.bipush 8, 2) := by decide +kernel
theorem d_Mo_letters_20 : decode c_Mo_letters 20 = .ok (.idiv, 1) := by decide +kernel
theorem d_Mo_letters_21 : decode c_Mo_letters 21 = .ok (.if_icmp .lt 7, 3) := by decide +kernel
theorem d_Mo_letters_24 : decode c_Mo_letters 24 = .ok (.iconst 1, 1) := by decide +kernel
theorem d_Mo_letters_25 : decode c_Mo_letters 25 = .ok (.goto 4, 3) := by decide +kernel
theorem d_Mo_letters_28 : decode c_Mo_letters 28 = .ok (.iconst 0, 1) := by decide +kernel
theorem d_Mo_letters_29 : decode c_Mo_letters 29 = .ok (.iconst 1, 1) := by decide +kernel
theorem d_Mo_letters_30 : decode c_Mo_letters 30 = .ok (.invokevirtual 47, 3) := by decide +kernel
theorem d_Mo_letters_33 : decode c_Mo_letters 33 = .ok (.ifCond .eq 5, 3) := by decide +kernel
theorem d_Mo_letters_36 : decode c_Mo_letters 36 = .ok (.lconst 0, 1) := by decide +kernel
theorem d_Mo_letters_37 : decode c_Mo_letters 37 = .ok (.lreturn, 1) := by decide +kernel
theorem d_Mo_letters_38 : decode c_Mo_letters 38 = .ok (.lconst 0, 1) := by decide +kernel
theorem d_Mo_letters_39 : decode c_Mo_letters 39 = .ok (.lstore_n 2, 1) := by decide +kernel
theorem d_Mo_letters_40 : decode c_Mo_letters 40 = .ok (.iconst 0, 1) := by decide +kernel
theorem d_Mo_letters_41 : decode c_Mo_letters 41 = .ok (.istore 4, 2) := by decide +kernel
theorem d_Mo_letters_43 : decode c_Mo_letters 43 = .ok (.iload 4, 2) := by decide +kernel
theorem d_Mo_letters_45 : decode c_Mo_letters 45 = .ok (.bipush 8, 2) := by decide +kernel
theorem d_Mo_letters_47 : decode c_Mo_letters 47 = .ok (.if_icmp .ge 46, 3) := by decide +kernel
theorem d_Mo_letters_50 : decode c_Mo_letters 50 = .ok (.lload_n 2, 1) := by decide +kernel
theorem d_Mo_letters_51 : decode c_Mo_letters 51 = .ok (.bipush 8, 2) := by decide +kernel
theorem d_Mo_letters_53 : decode c_Mo_letters 53 = .ok (.lshl, 1) := by decide +kernel
theorem d_Mo_letters_54 : decode c_Mo_letters 54 = .ok (.bipush 8, 2) := by decide +kernel
theorem d_Mo_letters_56 : decode c_Mo_letters 56 = .ok (.iload_n 1, 1) := by decide +kernel
theorem d_Mo_letters_57 : decode c_Mo_letters 57 = .ok (.imul, 1) := by decide +kernel
theorem d_Mo_letters_58 : decode c_Mo_letters 58 = .ok (.iload 4, 2) := by decide +kernel
theorem d_Mo_letters_60 : decode c_Mo_letters 60 = .ok (.iadd, 1) := by decide +kernel
theorem d_Mo_letters_61 : decode c_Mo_letters 61 = .ok (.aload_n 0, 1) := by decide +kernel
theorem d_Mo_letters_62 : decode c_Mo_letters 62 = .ok (.getfield 119, 3) := by decide +kernel
theorem d_Mo_letters_65 : decode c_Mo_letters 65 = .ok (.if_icmp .ge 18, 3) := by decide +kernel
theorem d_Mo_letters_68 : decode c_Mo_letters 68 = .ok (.aload_n 0, 1) := by decide +kernel
theorem d_Mo_letters_69 : decode c_Mo_letters 69 = .ok (.getfield 17, 3) := by decide +kernel
theorem d_Mo_letters_72 : decode c_Mo_letters 72 = .ok (.bipush 8, 2) := by decide +kernel
theorem d_Mo_letters_74 : decode c_Mo_letters 74 = .ok (.iload_n 1, 1) := by decide +kernel
theorem d_Mo_letters_75 : decode c_Mo_letters 75 = .ok (.imul, 1) := by decide +kernel
theorem d_Mo_letters_76 : decode c_Mo_letters 76 = .ok (.iload 4, 2) := by decide +kernel
theorem d_Mo_letters_78 : decode c_Mo_letters 78 = .ok (.iadd, 1) := by decide +kernel
theorem d_Mo_letters_79 : decode c_Mo_letters 79 = .ok (.iaload, 1) := by decide +kernel
theorem d_Mo_letters_80 : decode c_Mo_letters 80 = .ok (.goto 4, 3) := by decide +kernel
theorem d_Mo_letters_83 : decode c_Mo_letters 83 = .ok (.iconst 0, 1) := by decide +kernel
theorem d_Mo_letters_84 : decode c_Mo_letters 84 = .ok (.i2l, 1) := by decide +kernel
theorem d_Mo_letters_85 : decode c_Mo_letters 85 = .ok (.lor, 1) := by decide +kernel
theorem d_Mo_letters_86 : decode c_Mo_letters 86 = .ok (.lstore_n 2, 1) := by decide +kernel
theorem d_Mo_letters_87 : decode c_Mo_letters 87 = .ok (.iinc 4 1, 3) := by decide +kernel
theorem d_Mo_letters_90 : decode c_Mo_letters 90 = .ok (.goto (-47), 3) := by decide +kernel
theorem d_Mo_letters_93 : decode c_Mo_letters 93 = .ok (.lload_n 2, 1) := by decide +kernel
theorem d_Mo_letters_94 : decode c_Mo_letters 94 = .ok (.lreturn, 1) := by decide +kernel
theorem d_Mo_count_0 : decode c_Mo_count 0 = .ok (.aload_n 0, 1) := by decide +kernel
theorem d_Mo_count_1 : decode c_Mo_count 1 = .ok (.iconst 0, 1) := by decide +kernel
theorem d_Mo_count_2 : decode c_Mo_count 2 = .ok (.putfield 39, 3) := by decide +kernel
theorem d_Mo_count_5 : decode c_Mo_count 5 = .ok (.aload_n 0, 1) := by decide +kernel
theorem d_Mo_count_6 : decode c_Mo_count 6 = .ok (.iload_n 1, 1) := by decide +kernel
theorem d_Mo_count_7 : decode c_Mo_count 7 = .ok (.iconst 0, 1) := by decide +kernel
theorem d_Mo_count_8 : decode c_Mo_count 8 = .ok (.iconst 4, 1) := by decide +kernel
theorem d_Mo_count_9 : decode c_Mo_count 9 = .ok (.invokestatic 61, 3) := by decide +kernel
theorem d_Mo_count_12 : decode c_Mo_count 12 = .ok (.ifCond .ne 7, 3) := by decide +kernel
theorem d_Mo_count_15 : decode c_Mo_count 15 = .ok (.iconst 1, 1) := by decide +kernel
theorem d_Mo_count_16 : decode c_Mo_count 16 = .ok (.goto 4, 3) := by decide +kernel
theorem d_Mo_count_19 : decode c_Mo_count 19 = .ok (.iconst 0, 1) := by decide +kernel
theorem d_Mo_count_20 : decode c_Mo_count 20 = .ok (.iconst 1, 1) := by decide +kernel
theorem d_Mo_count_21 : decode c_Mo_count 21 = .ok (.invokevirtual 47, 3) := by decide +kernel
theorem d_Mo_count_24 : decode c_Mo_count 24 = .ok (.ifCond .eq 5, 3) := by decide +kernel
theorem d_Mo_count_27 : decode c_Mo_count 27 = .ok (.iconst 0, 1) := by decide +kernel
theorem d_Mo_count_28 : decode c_Mo_count 28 = .ok (.ireturn, 1) := by decide +kernel
theorem d_Mo_count_29 : decode c_Mo_count 29 = .ok (.iload_n 1, 1) := by decide +kernel
theorem d_Mo_count_30 : decode c_Mo_count 30 = .ok (.ifCond .ne 10, 3) := by decide +kernel
theorem d_Mo_count_33 : decode c_Mo_count 33 = .ok (.aload_n 0, 1) := by decide +kernel
theorem d_Mo_count_34 : decode c_Mo_count 34 = .ok (.getfield 44, 3) := by decide +kernel
theorem d_Mo_count_37 : decode c_Mo_count 37 = .ok (.goto 43, 3) := by decide +kernel
theorem d_Mo_count_40 : decode c_Mo_count 40 = .ok (.iload_n 1, 1) := by decide +kernel
theorem d_Mo_count_41 : decode c_Mo_count 41 = .ok (.iconst 1, 1) := by decide +kernel
theorem d_Mo_count_42 : decode c_Mo_count 42 = .ok (.if_icmp .ne 10, 3) := by decide +kernel
theorem d_Mo_count_45 : decode c_Mo_count 45 = .ok (.aload_n 0, 1) := by decide +kernel
theorem d_Mo_count_46 : decode c_Mo_count 46 = .ok (.getfield 51, 3) := by decide +kernel
theorem d_Mo_count_49 : decode c_Mo_count 49 = .ok (.goto 31, 3) := by decide +kernel
theorem d_Mo_count_52 : decode c_Mo_count 52 = .ok (.iload_n 1, 1) := by decide +kernel
theorem d_Mo_count_53 : decode c_Mo_count 53 = .ok (.iconst 2, 1) := by decide +kernel
theorem d_Mo_count_54 : decode c_Mo_count 54 = .ok (.if_icmp .ne 10, 3) := by decide +kernel
theorem d_Mo_count_57 : decode c_Mo_count 57 = .ok (.aload_n 0, 1) := by decide +kernel
theorem d_Mo_count_58 : decode c_Mo_count 58 = .ok (.getfield 112, 3) := by decide +kernel
theorem d_Mo_count_61 : decode c_Mo_count 61 = .ok (.goto 19, 3) := by decide +kernel
theorem d_Mo_count_64 : decode c_Mo_count 64 = .ok (.iload_n 1, 1) := by decide +kernel
theorem d_Mo_count_65 : decode c_Mo_count 65 = .ok (.iconst 3, 1) := by decide +kernel
theorem d_Mo_count_66 : decode c_Mo_count 66 = .ok (.if_icmp .ne 10, 3) := by decide +kernel
theorem d_Mo_count_69 : decode c_Mo_count 69 = .ok (.aload_n 0, 1) := by decide +kernel
theorem d_Mo_count_70 : decode c_Mo_count 70 = .ok (.getfield 122, 3) := by decide +kernel
theorem d_Mo_count_73 : decode c_Mo_count 73 = .ok (.goto 7, 3) := by decide +kernel
theorem d_Mo_count_76 : decode c_Mo_count 76 = .ok (.aload_n 0, 1) := by decide +kernel
theorem d_Mo_count_77 : decode c_Mo_count 77 = .ok (.getfield 119, 3) := by decide +kernel
theorem d_Mo_count_80 : decode c_Mo_count 80 = .ok (.ireturn, 1) := by decide +kernel
