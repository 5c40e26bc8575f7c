theorem d_Mo_cut_227 : decode c_Mo_cut 227 = .ok (.iload 6, 2) := by decide +kernel
theorem d_Mo_cut_229 : decode c_Mo_cut 229 = .ok (.aload_n 0, 1) := by decide +kernel
theorem d_Mo_cut_230 : decode c_Mo_cut 230 = .ok (.getfield 36, 3) := by decide +kernel
theorem d_Mo_cut_233 : decode c_Mo_cut 233 = .ok (.iload 6, 2) := by decide +kernel
theorem d_Mo_cut_235 : decode c_Mo_cut 235 = .ok (.iconst 1, 1) := by decide +kernel
theorem d_Mo_cut_236 : decode c_Mo_cut 236 = .ok (.isub, 1) := by decide +kernel
theorem d_Mo_cut_237 : decode c_Mo_cut 237 = .ok (.iaload, 1) := by decide +kernel
theorem d_Mo_cut_238 : decode c_Mo_cut 238 = .ok (.iastore, 1) := by decide +kernel
theorem d_Mo_cut_239 : decode c_Mo_cut 239 = .ok (.iinc 6 (-1), 3) := by decide +kernel
theorem d_Mo_cut_242 : decode c_Mo_cut 242 = .ok (.goto (-24), 3) := by decide +kernel
theorem d_Mo_cut_245 : decode c_Mo_cut 245 = .ok (.aload_n 0, 1) := by decide +kernel
theorem d_Mo_cut_246 : decode c_Mo_cut 246 = .ok (.getfield 36, 3) := by decide +kernel
theorem d_Mo_cut_249 : decode c_Mo_cut 249 = .ok (.iconst 0, 1) := by decide +kernel
theorem d_Mo_cut_250 : decode c_Mo_cut 250 = .ok (.iconst 1, 1) := by decide +kernel
theorem d_Mo_cut_251 : decode c_Mo_cut 251 = .ok (.iastore, 1) := by decide +kernel
theorem d_Mo_cut_252 : decode c_Mo_cut 252 = .ok (.iconst 1, 1) := by decide +kernel
theorem d_Mo_cut_253 : decode c_Mo_cut 253 = .ok (.ireturn, 1) := by decide +kernel
theorem d_Mo_fixed_0 : decode c_Mo_fixed 0 = .ok (.aload_n 0, 1) := by decide +kernel
theorem d_Mo_fixed_1 : decode c_Mo_fixed 1 = .ok (.getfield 194, 3) := by decide +kernel
theorem d_Mo_fixed_4 : decode c_Mo_fixed 4 = .ok (.iload_n 1, 1) := by decide +kernel
theorem d_Mo_fixed_5 : decode c_Mo_fixed 5 = .ok (.iadd, 1) := by decide +kernel
theorem d_Mo_fixed_6 : decode c_Mo_fixed 6 = .ok (.istore_n 2, 1) := by decide +kernel
theorem d_Mo_fixed_7 : decode c_Mo_fixed 7 = .ok (.aload_n 0, 1) := by decide +kernel
theorem d_Mo_fixed_8 : decode c_Mo_fixed 8 = .ok (.iload_n 2, 1) := by decide +kernel
theorem d_Mo_fixed_9 : decode c_Mo_fixed 9 = .ok (.invokevirtual 197, 3) := by decide +kernel
theorem d_Mo_fixed_12 : decode c_Mo_fixed 12 = .ok (.istore_n 3, 1) := by decide +kernel
theorem d_Mo_fixed_13 : decode c_Mo_fixed 13 = .ok (.iload_n 3, 1) := by decide +kernel
theorem d_Mo_fixed_14 : decode c_Mo_fixed 14 = .ok (.ifCond .eq 12, 3) := by decide +kernel
theorem d_Mo_fixed_17 : decode c_Mo_fixed 17 = .ok (.aload_n 0, 1) := by decide +kernel
theorem d_Mo_fixed_18 : decode c_Mo_fixed 18 = .ok (.getfield 194, 3) := by decide +kernel
theorem d_Mo_fixed_21 : decode c_Mo_fixed 21 = .ok (.iconst 1, 1) := by decide +kernel
theorem d_Mo_fixed_22 : decode c_Mo_fixed 22 = .ok (.iadd, 1) := by decide +kernel
theorem d_Mo_fixed_23 : decode c_Mo_fixed 23 = .ok (.goto 7, 3) := by decide +kernel
theorem d_Mo_fixed_26 : decode c_Mo_fixed 26 = .ok (.aload_n 0, 1) := by decide +kernel
theorem d_Mo_fixed_27 : decode c_Mo_fixed 27 = .ok (.getfield 194, 3) := by decide +kernel
theorem d_Mo_fixed_30 : decode c_Mo_fixed 30 = .ok (.istore 4, 2) := by decide +kernel
theorem d_Mo_fixed_32 : decode c_Mo_fixed 32 = .ok (.iload_n 2, 1) := by decide +kernel
theorem d_Mo_fixed_33 : decode c_Mo_fixed 33 = .ok (.ifCond .ge 7, 3) := by decide +kernel
theorem d_Mo_fixed_36 : decode c_Mo_fixed 36 = .ok (.iconst 0, 1) := by decide +kernel
theorem d_Mo_fixed_37 : decode c_Mo_fixed 37 = .ok (.goto 14, 3) := by decide +kernel
theorem d_Mo_fixed_40 : decode c_Mo_fixed 40 = .ok (.iload_n 3, 1) := by decide +kernel
theorem d_Mo_fixed_41 : decode c_Mo_fixed 41 = .ok (.ifCond .eq 9, 3) := by decide +kernel
theorem d_Mo_fixed_44 : decode c_Mo_fixed 44 = .ok (.iload_n 2, 1) := by decide +kernel
theorem d_Mo_fixed_45 : decode c_Mo_fixed 45 = .ok (.iconst 1, 1) := by decide +kernel
theorem d_Mo_fixed_46 : decode c_Mo_fixed 46 = .ok (.iadd, 1) := by decide +kernel
theorem d_Mo_fixed_47 : decode c_Mo_fixed 47 = .ok (.goto 4, 3) := by decide +kernel
theorem d_Mo_fixed_50 : decode c_Mo_fixed 50 = .ok (.iload_n 2, 1) := by decide +kernel
theorem d_Mo_fixed_51 : decode c_Mo_fixed 51 = .ok (.istore 5, 2) := by decide +kernel
theorem d_Mo_fixed_53 : decode c_Mo_fixed 53 = .ok (.iload_n 2, 1) := by decide +kernel
theorem d_Mo_fixed_54 : decode c_Mo_fixed 54 = .ok (.ifCond .ge 7, 3) := by decide +kernel
theorem d_Mo_fixed_57 : decode c_Mo_fixed 57 = .ok (.iload_n 1, 1) := by decide +kernel
theorem d_Mo_fixed_58 : decode c_Mo_fixed 58 = .ok (.ineg, 1) := by decide +kernel
theorem d_Mo_fixed_59 : decode c_Mo_fixed 59 = .ok (.istore 4, 2) := by decide +kernel
theorem d_Mo_fixed_61 : decode c_Mo_fixed 61 = .ok (.iload 4, 2) := by decide +kernel
theorem d_Mo_fixed_63 : decode c_Mo_fixed 63 = .ok (.ifCond .gt 9, 3) := by decide +kernel
theorem d_Mo_fixed_66 : decode c_Mo_fixed 66 = .ok (.aload_n 0, 1) := by decide +kernel
theorem d_Mo_fixed_67 : decode c_Mo_fixed 67 = .ok (.bipush 48, 2) := by decide +kernel
theorem d_Mo_fixed_69 : decode c_Mo_fixed 69 = .ok (.invokevirtual 162, 3) := by decide +kernel
theorem d_Mo_fixed_72 : decode c_Mo_fixed 72 = .ok (.iconst 0, 1) := by decide +kernel
theorem d_Mo_fixed_73 : decode c_Mo_fixed 73 = .ok (.istore 6, 2) := by decide +kernel
theorem d_Mo_fixed_75 : decode c_Mo_fixed 75 = .ok (.iload 6, 2) := by decide +kernel
theorem d_Mo_fixed_77 : decode c_Mo_fixed 77 = .ok (.iload 4, 2) := by decide +kernel
theorem d_Mo_fixed_79 : decode c_Mo_fixed 79 = .ok (.if_icmp .ge 23, 3) := by decide +kernel
theorem d_Mo_fixed_82 : decode c_Mo_fixed 82 = .ok (.aload_n 0, 1) := by decide +kernel
theorem d_Mo_fixed_83 : decode c_Mo_fixed 83 = .ok (.bipush 48, 2) := by decide +kernel
theorem d_Mo_fixed_85 : decode c_Mo_fixed 85 = .ok (.aload_n 0, 1) := by decide +kernel
theorem d_Mo_fixed_86 : decode c_Mo_fixed 86 = .ok (.getfield 36, 3) := by decide +kernel
theorem d_Mo_fixed_89 : decode c_Mo_fixed 89 = .ok (.iload 6, 2) := by decide +kernel
theorem d_Mo_fixed_91 : decode c_Mo_fixed 91 = .ok (.iaload, 1) := by decide +kernel
theorem d_Mo_fixed_92 : decode c_Mo_fixed 92 = .ok (.iadd, 1) := by decide +kernel
theorem d_Mo_fixed_93 : decode c_Mo_fixed 93 = .ok (.invokevirtual 162, 3) := by decide +kernel
theorem d_Mo_fixed_96 : decode c_Mo_fixed 96 = .ok (.iinc 6 1, 3) := by decide +kernel
theorem d_Mo_fixed_99 : decode c_Mo_fixed 99 = .ok (.goto (-24), 3) := by decide +kernel
theorem d_Mo_fixed_102 : decode c_Mo_fixed 102 = .ok (.iload_n 1, 1) := by decide +kernel
theorem d_Mo_fixed_103 : decode c_Mo_fixed 103 = .ok (.ifCond .gt 10, 3) := by decide +kernel
theorem d_Mo_fixed_106 : decode c_Mo_fixed 106 = .ok (.aload_n 0, 1) := by decide +kernel
theorem d_Mo_fixed_107 : decode c_Mo_fixed 107 = .ok (.getfield 79, 3) := by decide +kernel
theorem d_Mo_fixed_110 : decode c_Mo_fixed 110 = .ok (.ifCond .eq 9, 3) := by decide +kernel
theorem d_Mo_fixed_113 : decode c_Mo_fixed 113 = .ok (.aload_n 0, 1) := by decide +kernel
theorem d_Mo_fixed_114 : decode c_Mo_fixed 114 = .ok (.bipush 46, 2) := by decide +kernel
theorem d_Mo_fixed_116 : decode c_Mo_fixed 116 = .ok (.invokevirtual 162, 3) := by decide +kernel
theorem d_Mo_fixed_119 : decode c_Mo_fixed 119 = .ok (.iconst 0, 1) := by decide +kernel
theorem d_Mo_fixed_120 : decode c_Mo_fixed 120 = .ok (.istore 6, 2) := by decide +kernel
theorem d_Mo_fixed_122 : decode c_Mo_fixed 122 = .ok (.iload 6, 2) := by decide +kernel
theorem d_Mo_fixed_124 : decode c_Mo_fixed 124 = .ok (.iload_n 1, 1) := by decide +kernel
theorem d_Mo_fixed_125 : decode c_Mo_fixed 125 = .ok (.if_icmp .ge 47, 3) := by decide +kernel
theorem d_Mo_fixed_128 : decode c_Mo_fixed 128 = .ok (.iload 4, 2) := by decide +kernel
theorem d_Mo_fixed_130 : decode c_Mo_fixed 130 = .ok (.iload 6, 2) := by decide +kernel
theorem d_Mo_fixed_132 : decode c_Mo_fixed 132 = .ok (.iadd, 1) := by decide +kernel
theorem d_Mo_fixed_133 : decode c_Mo_fixed 133 = .ok (.istore 7, 2) := by decide +kernel
theorem d_Mo_fixed_135 : decode c_Mo_fixed 135 = .ok (.aload_n 0, 1) := by decide +kernel
theorem d_Mo_fixed_136 : decode c_Mo_fixed 136 = .ok (.iload 7, 2) := by decide +kernel
theorem d_Mo_fixed_138 : decode c_Mo_fixed 138 = .ok (.ifCond .lt 10, 3) := by decide +kernel
theorem d_Mo_fixed_141 : decode c_Mo_fixed 141 = .ok (.iload 7, 2) := by decide +kernel
theorem d_Mo_fixed_143 : decode c_Mo_fixed 143 = .ok (.iload 5, 2) := by decide +kernel
theorem d_Mo_fixed_145 : decode c_Mo_fixed 145 = .ok (.if_icmp .lt 8, 3) := by decide +kernel
theorem d_Mo_fixed_148 : decode c_Mo_fixed 148 = .ok (.bipush 48, 2) := by decide +kernel
theorem d_Mo_fixed_150 : decode c_Mo_fixed 150 = .ok (.goto 13, 3) := by decide +kernel
theorem d_Mo_fixed_153 : decode c_Mo_fixed 153 = .ok (.bipush 48, 2) := by decide +kernel
theorem d_Mo_fixed_155 : decode c_Mo_fixed 155 = .ok (.aload_n 0, 1) := by decide +kernel
theorem d_Mo_fixed_156 : decode c_Mo_fixed 156 = .ok (.getfield 36, 3) := by decide +kernel
theorem d_Mo_fixed_159 : decode c_Mo_fixed 159 = .ok (.iload 7, 2) := by decide +kernel
theorem d_Mo_fixed_161 : decode c_Mo_fixed 161 = .ok (.iaload, 1) := by decide +kernel
theorem d_Mo_fixed_162 : decode c_Mo_fixed 162 = .ok (.iadd, 1) := by decide +kernel
theorem d_Mo_fixed_163 : decode c_Mo_fixed 163 = .ok (.invokevirtual 162, 3) := by decide +kernel
theorem d_Mo_fixed_166 : decode c_Mo_fixed 166 = .ok (.iinc 6 1, 3) := by decide +kernel
theorem d_Mo_fixed_169 : decode c_Mo_fixed 169 = .ok (.goto (-47), 3) := by decide +kernel
theorem d_Mo_fixed_172 : decode c_Mo_fixed 172 = .ok (.return_, 1) := by decide +kernel
theorem d_Mo_exponent_0 : decode c_Mo_exponent 0 = .ok (.aload_n 0, 1) := by decide +kernel
theorem d_Mo_exponent_1 : decode c_Mo_exponent 1 = .ok (.getfield 191, 3) := by decide +kernel
theorem d_Mo_exponent_4 : decode c_Mo_exponent 4 = .ok (.ifCond .ne 25, 3) := by decide +kernel
theorem d_Mo_exponent_7 : decode c_Mo_exponent 7 = .ok (.iconst 0, 1) := by decide +kernel
theorem d_Mo_exponent_8 : decode c_Mo_exponent 8 = .ok (.istore_n 2, 1) := by decide +kernel
theorem d_Mo_exponent_9 : decode c_Mo_exponent 9 = .ok (.iload_n 2, 1) := by decide +kernel
theorem d_Mo_exponent_10 : decode c_Mo_exponent 10 = .ok (.iload_n 1, 1) := by decide +kernel
theorem d_Mo_exponent_11 : decode c_Mo_exponent 11 = .ok (.if_icmp .gt 16, 3) := by decide +kernel
theorem d_Mo_exponent_14 : decode c_Mo_exponent 14 = .ok (.aload_n 0, 1) := by decide +kernel
theorem d_Mo_exponent_15 : decode c_Mo_exponent 15 = .ok (.getfield 36, 3) := by decide +kernel
theorem d_Mo_exponent_18 : decode c_Mo_exponent 18 = .ok (.iload_n 2, 1) := by decide +kernel
theorem d_Mo_exponent_19 : decode c_Mo_exponent 19 = .ok (.iconst 0, 1) := by decide +kernel
theorem d_Mo_exponent_20 : decode c_Mo_exponent 20 = .ok (.iastore, 1) := by decide +kernel
theorem d_Mo_exponent_21 : decode c_Mo_exponent 21 = .ok (.iinc 2 1, 3) := by decide +kernel
theorem d_Mo_exponent_24 : decode c_Mo_exponent 24 = .ok (.goto (-15), 3) := by decide +kernel
theorem d_Mo_exponent_27 : decode c_Mo_exponent 27 = .ok (.iconst 0, 1) := by decide +kernel
theorem d_Mo_exponent_28 : decode c_Mo_exponent 28 = .ok (.ireturn, 1) := by decide +kernel
theorem d_Mo_exponent_29 : decode c_Mo_exponent 29 = .ok (.aload_n 0, 1) := by decide +kernel
theorem d_Mo_exponent_30 : decode c_Mo_exponent 30 = .ok (.iload_n 1, 1) := by decide +kernel
theorem d_Mo_exponent_31 : decode c_Mo_exponent 31 = .ok (.iconst 1, 1) := by decide +kernel
theorem d_Mo_exponent_32 : decode c_Mo_exponent 32 = .ok (.iadd, 1) := by decide +kernel
theorem d_Mo_exponent_33 : decode c_Mo_exponent 33 = .ok (.invokevirtual 197, 3) := by decide +kernel
theorem d_Mo_exponent_36 : decode c_Mo_exponent 36 = .ok (.ifCond .eq 12, 3) := by decide +kernel
theorem d_Mo_exponent_39 : decode c_Mo_exponent 39 = .ok (.aload_n 0, 1) := by decide +kernel
theorem d_Mo_exponent_40 : decode c_Mo_exponent 40 = .ok (.getfield 194, 3) := by decide +kernel
theorem d_Mo_exponent_43 : decode c_Mo_exponent 43 = .ok (.iconst 1, 1) := by decide +kernel
theorem d_Mo_exponent_44 : decode c_Mo_exponent 44 = .ok (.iadd, 1) := by decide +kernel
theorem d_Mo_exponent_45 : decode c_Mo_exponent 45 = .ok (.goto 7, 3) := by decide +kernel
theorem d_Mo_exponent_48 : decode c_Mo_exponent 48 = .ok (.aload_n 0, 1) := by decide +kernel
theorem d_Mo_exponent_49 : decode c_Mo_exponent 49 = .ok (.getfield 194, 3) := by decide +kernel
theorem d_Mo_exponent_52 : decode c_Mo_exponent 52 = .ok (.iconst 1, 1) := by decide +kernel
theorem d_Mo_exponent_53 : decode c_Mo_exponent 53 = .ok (.isub, 1) := by decide +kernel
theorem d_Mo_exponent_54 : decode c_Mo_exponent 54 = .ok (.ireturn, 1) := by decide +kernel
theorem d_Mo_scientific_0 : decode c_Mo_scientific 0 = .ok (.aload_n 0, 1) := by decide +kernel
theorem d_Mo_scientific_1 : decode c_Mo_scientific 1 = .ok (.iload_n 1, 1) := by decide +kernel
theorem d_Mo_scientific_2 : decode c_Mo_scientific 2 = .ok (.invokevirtual 200, 3) := by decide +kernel
theorem d_Mo_scientific_5 : decode c_Mo_scientific 5 = .ok (.istore_n 3, 1) := by decide +kernel
theorem d_Mo_scientific_6 : decode c_Mo_scientific 6 = .ok (.aload_n 0, 1) := by decide +kernel
theorem d_Mo_scientific_7 : decode c_Mo_scientific 7 = .ok (.bipush 48, 2) := by decide +kernel
theorem d_Mo_scientific_9 : decode c_Mo_scientific 9 = .ok (.aload_n 0, 1) := by decide +kernel
theorem d_Mo_scientific_10 : decode c_Mo_scientific 10 = .ok (.getfield 36, 3) := by decide +kernel
theorem d_Mo_scientific_13 : decode c_Mo_scientific 13 = .ok (.iconst 0, 1) := by decide +kernel
theorem d_Mo_scientific_14 : decode c_Mo_scientific 14 = .ok (.iaload, 1) := by decide +kernel
theorem d_Mo_scientific_15 : decode c_Mo_scientific 15 = .ok (.iadd, 1) := by decide +kernel
theorem d_Mo_scientific_16 : decode c_Mo_scientific 16 = .ok (.invokevirtual 162, 3) := by decide +kernel
theorem d_Mo_scientific_19 : decode c_Mo_scientific 19 = .ok (.iload_n 1, 1) := by decide +kernel
theorem d_Mo_scientific_20 : decode c_Mo_scientific 20 = .ok (.ifCond .gt 10, 3) := by decide +kernel
theorem d_Mo_scientific_23 : decode c_Mo_scientific 23 = .ok (.aload_n 0, 1) := by decide +kernel
theorem d_Mo_scientific_24 : decode c_Mo_scientific 24 = .ok (.getfield 79, 3) := by decide +kernel
theorem d_Mo_scientific_27 : decode c_Mo_scientific 27 = .ok (.ifCond .eq 9, 3) := by decide +kernel
theorem d_Mo_scientific_30 : decode c_Mo_scientific 30 = .ok (.aload_n 0, 1) := by decide +kernel
theorem d_Mo_scientific_31 : decode c_Mo_scientific 31 = .ok (.bipush 46, 2) := by decide +kernel
theorem d_Mo_scientific_33 : decode c_Mo_scientific 33 = .ok (.invokevirtual 162, 3) := by decide +kernel
theorem d_Mo_scientific_36 : decode c_Mo_scientific 36 = .ok (.iconst 1, 1) := by decide +kernel
theorem d_Mo_scientific_37 : decode c_Mo_scientific 37 = .ok (.istore 4, 2) := by decide +kernel
theorem d_Mo_scientific_39 : decode c_Mo_scientific 39 = .ok (.iload 4, 2) := by decide +kernel
theorem d_Mo_scientific_41 : decode c_Mo_scientific 41 = .ok (.iload_n 1, 1) := by decide +kernel
theorem d_Mo_scientific_42 : decode c_Mo_scientific 42 = .ok (.if_icmp .gt 23, 3) := by decide +kernel
theorem d_Mo_scientific_45 : decode c_Mo_scientific 45 = .ok (.aload_n 0, 1) := by decide +kernel
theorem d_Mo_scientific_46 : decode c_Mo_scientific 46 = .ok (.bipush 48, 2) := by decide +kernel
theorem d_Mo_scientific_48 : decode c_Mo_scientific 48 = .ok (.aload_n 0, 1) := by decide +kernel
theorem d_Mo_scientific_49 : decode c_Mo_scientific 49 = .ok (.getfield 36, 3) := by decide +kernel
theorem d_Mo_scientific_52 : decode c_Mo_scientific 52 = .ok (.iload 4, 2) := by decide +kernel
theorem d_Mo_scientific_54 : decode c_Mo_scientific 54 = .ok (.iaload, 1) := by decide +kernel
theorem d_Mo_scientific_55 : decode c_Mo_scientific 55 = .ok (.iadd, 1) := by decide +kernel
theorem d_Mo_scientific_56 : decode c_Mo_scientific 56 = .ok (.invokevirtual 162, 3) := by decide +kernel
theorem d_Mo_scientific_59 : decode c_Mo_scientific 59 = .ok (.iinc 4 1, 3) := by decide +kernel
theorem d_Mo_scientific_62 : decode c_Mo_scientific 62 = .ok (.goto (-23), 3) := by decide +kernel
theorem d_Mo_scientific_65 : decode c_Mo_scientific 65 = .ok (.aload_n 0, 1) := by decide +kernel
theorem d_Mo_scientific_66 : decode c_Mo_scientific 66 = .ok (.iload_n 2, 1) := by decide +kernel
theorem d_Mo_scientific_67 : decode c_Mo_scientific 67 = .ok (.ifCond .eq 8, 3) := by decide +kernel
theorem d_Mo_scientific_70 : decode c_Mo_scientific 70 = .ok (.bipush 69, 2) := by decide +kernel
theorem d_Mo_scientific_72 : decode c_Mo_scientific 72 = .ok (.goto 5, 3) := by decide +kernel
theorem d_Mo_scientific_75 : decode c_Mo_scientific 75 = .ok (.bipush 101, 2) := by decide +kernel
theorem d_Mo_scientific_77 : decode c_Mo_scientific 77 = .ok (.invokevirtual 162, 3) := by decide +kernel
theorem d_Mo_scientific_80 : decode c_Mo_scientific 80 = .ok (.aload_n 0, 1) := by decide +kernel
theorem d_Mo_scientific_81 : decode c_Mo_scientific 81 = .ok (.iload_n 3, 1) := by decide +kernel
theorem d_Mo_scientific_82 : decode c_Mo_scientific 82 = .ok (.ifCond .ge 8, 3) := by decide +kernel
theorem d_Mo_scientific_85 : decode c_Mo_scientific 85 = .ok (.bipush 45, 2) := by decide +kernel
theorem d_Mo_scientific_87 : decode c_Mo_scientific 87 = .ok (.goto 5, 3) := by decide +kernel
theorem d_Mo_scientific_90 : decode c_Mo_scientific 90 = .ok (.bipush 43, 2) := by decide +kernel
theorem d_Mo_scientific_92 : decode c_Mo_scientific 92 = .ok (.invokevirtual 162, 3) := by decide +kernel
theorem d_Mo_scientific_95 : decode c_Mo_scientific 95 = .ok (.iload_n 3, 1) := by decide +kernel
theorem d_Mo_scientific_96 : decode c_Mo_scientific 96 = .ok (.ifCond .ge 8, 3) := by decide +kernel
theorem d_Mo_scientific_99 : decode c_Mo_scientific 99 = .ok (.iload_n 3, 1) := by decide +kernel
theorem d_Mo_scientific_100 : decode c_Mo_scientific 100 = .ok (.ineg, 1) := by decide +kernel
theorem d_Mo_scientific_101 : decode c_Mo_scientific 101 = .ok (.goto 4, 3) := by decide +kernel
theorem d_Mo_scientific_104 : decode c_Mo_scientific 104 = .ok (.iload_n 3, 1) := by decide +kernel
theorem d_Mo_scientific_105 : decode c_Mo_scientific 105 = .ok (.istore 4, 2) := by decide +kernel
theorem d_Mo_scientific_107 : decode c_Mo_scientific 107 = .ok (.iload 4, 2) := by decide +kernel
theorem d_Mo_scientific_109 : decode c_Mo_scientific 109 = .ok (.bipush 99, 2) := by decide +kernel
theorem d_Mo_scientific_111 : decode c_Mo_scientific 111 = .ok (.if_icmp .le 15, 3) := by decide +kernel
theorem d_Mo_scientific_114 : decode c_Mo_scientific 114 = .ok (.aload_n 0, 1) := by decide +kernel
theorem d_Mo_scientific_115 : decode c_Mo_scientific 115 = .ok (.bipush 48, 2) := by decide +kernel
theorem d_Mo_scientific_117 : decode c_Mo_scientific 117 = .ok (.iload 4, 2) := by decide +kernel
theorem d_Mo_scientific_119 : decode c_Mo_scientific 119 = .ok (.bipush 100, 2) := by decide +kernel
theorem d_Mo_scientific_121 : decode c_Mo_scientific 121 = .ok (.idiv, 1) := by decide +kernel
theorem d_Mo_scientific_122 : decode c_Mo_scientific 122 = .ok (.iadd, 1) := by decide +kernel
theorem d_Mo_scientific_123 : decode c_Mo_scientific 123 = .ok (.invokevirtual 162, 3) := by decide +kernel
theorem d_Mo_scientific_126 : decode c_Mo_scientific 126 = .ok (.aload_n 0, 1) := by decide +kernel
theorem d_Mo_scientific_127 : decode c_Mo_scientific 127 = .ok (.bipush 48, 2) := by decide +kernel
theorem d_Mo_scientific_129 : decode c_Mo_scientific 129 = .ok (.iload 4, 2) := by decide +kernel
theorem d_Mo_scientific_131 : decode c_Mo_scientific 131 = .ok (.bipush 10, 2) := by decide +kernel
theorem d_Mo_scientific_133 : decode c_Mo_scientific 133 = .ok (.idiv, 1) := by decide +kernel
theorem d_Mo_scientific_134 : decode c_Mo_scientific 134 = .ok (.bipush 10, 2) := by decide +kernel
theorem d_Mo_scientific_136 : decode c_Mo_scientific 136 = .ok (.irem, 1) := by decide +kernel
theorem d_Mo_scientific_137 : decode c_Mo_scientific 137 = .ok (.iadd, 1) := by decide +kernel
theorem d_Mo_scientific_138 : decode c_Mo_scientific 138 = .ok (.invokevirtual 162, 3) := by decide +kernel
theorem d_Mo_scientific_141 : decode c_Mo_scientific 141 = .ok (.aload_n 0, 1) := by decide +kernel
theorem d_Mo_scientific_142 : decode c_Mo_scientific 142 = .ok (.bipush 48, 2) := by decide +kernel
theorem d_Mo_scientific_144 : decode c_Mo_scientific 144 = .ok (.iload 4, 2) := by decide +kernel
theorem d_Mo_scientific_146 : decode c_Mo_scientific 146 = .ok (.bipush 10, 2) := by decide +kernel
theorem d_Mo_scientific_148 : decode c_Mo_scientific 148 = .ok (.irem, 1) := by decide +kernel
theorem d_Mo_scientific_149 : decode c_Mo_scientific 149 = .ok (.iadd, 1) := by decide +kernel
theorem d_Mo_scientific_150 : decode c_Mo_scientific 150 = .ok (.invokevirtual 162, 3) := by decide +kernel
theorem d_Mo_scientific_153 : decode c_Mo_scientific 153 = .ok (.return_, 1) := by decide +kernel
theorem d_Mo_general_0 : decode c_Mo_general 0 = .ok (.iload_n 1, 1) := by decide +kernel
theorem d_Mo_general_1 : decode c_Mo_general 1 = .ok (.ifCond .ne 7, 3) := by decide +kernel
theorem d_Mo_general_4 : decode c_Mo_general 4 = .ok (.iconst 1, 1) := by decide +kernel
theorem d_Mo_general_5 : decode c_Mo_general 5 = .ok (.goto 4, 3) := by decide +kernel
theorem d_Mo_general_8 : decode c_Mo_general 8 = .ok (.iload_n 1, 1) := by decide +kernel
theorem d_Mo_general_9 : decode c_Mo_general 9 = .ok (.istore_n 3, 1) := by decide +kernel
theorem d_Mo_general_10 : decode c_Mo_general 10 = .ok (.aload_n 0, 1) := by decide +kernel
theorem d_Mo_general_11 : decode c_Mo_general 11 = .ok (.iload_n 3, 1) := by decide +kernel
theorem d_Mo_general_12 : decode c_Mo_general 12 = .ok (.iconst 1, 1) := by decide +kernel
theorem d_Mo_general_13 : decode c_Mo_general 13 = .ok (.isub, 1) := by decide +kernel
theorem d_Mo_general_14 : decode c_Mo_general 14 = .ok (.invokevirtual 200, 3) := by decide +kernel
theorem d_Mo_general_17 : decode c_Mo_general 17 = .ok (.istore 4, 2) := by decide +kernel
theorem d_Mo_general_19 : decode c_Mo_general 19 = .ok (.iload 4, 2) := by decide +kernel
theorem d_Mo_general_21 : decode c_Mo_general 21 = .ok (.bipush (-4), 2) := by decide +kernel
theorem d_Mo_general_23 : decode c_Mo_general 23 = .ok (.if_icmp .lt 13, 3) := by decide +kernel
theorem d_Mo_general_26 : decode c_Mo_general 26 = .ok (.iload 4, 2) := by decide +kernel
theorem d_Mo_general_28 : decode c_Mo_general 28 = .ok (.iload_n 3, 1) := by decide +kernel
theorem d_Mo_general_29 : decode c_Mo_general 29 = .ok (.if_icmp .ge 7, 3) := by decide +kernel
theorem d_Mo_general_32 : decode c_Mo_general 32 = .ok (.iconst 1, 1) := by decide +kernel
theorem d_Mo_general_33 : decode c_Mo_general 33 = .ok (.goto 4, 3) := by decide +kernel
theorem d_Mo_general_36 : decode c_Mo_general 36 = .ok (.iconst 0, 1) := by decide +kernel
theorem d_Mo_general_37 : decode c_Mo_general 37 = .ok (.istore 5, 2) := by decide +kernel
theorem d_Mo_general_39 : decode c_Mo_general 39 = .ok (.iload 5, 2) := by decide +kernel
theorem d_Mo_general_41 : decode c_Mo_general 41 = .ok (.ifCond .eq 16, 3) := by decide +kernel
theorem d_Mo_general_44 : decode c_Mo_general 44 = .ok (.aload_n 0, 1) := by decide +kernel
theorem d_Mo_general_45 : decode c_Mo_general 45 = .ok (.iload_n 3, 1) := by decide +kernel
theorem d_Mo_general_46 : decode c_Mo_general 46 = .ok (.iconst 1, 1) := by decide +kernel
theorem d_Mo_general_47 : decode c_Mo_general 47 = .ok (.isub, 1) := by decide +kernel
theorem d_Mo_general_48 : decode c_Mo_general 48 = .ok (.iload 4, 2) := by decide +kernel
theorem d_Mo_general_50 : decode c_Mo_general 50 = .ok (.isub, 1) := by decide +kernel
theorem d_Mo_general_51 : decode c_Mo_general 51 = .ok (.invokevirtual 203, 3) := by decide +kernel
theorem d_Mo_general_54 : decode c_Mo_general 54 = .ok (.goto 11, 3) := by decide +kernel
theorem d_Mo_general_57 : decode c_Mo_general 57 = .ok (.aload_n 0, 1) := by decide +kernel
theorem d_Mo_general_58 : decode c_Mo_general 58 = .ok (.iload_n 3, 1) := by decide +kernel
theorem d_Mo_general_59 : decode c_Mo_general 59 = .ok (.iconst 1, 1) := by decide +kernel
theorem d_Mo_general_60 : decode c_Mo_general 60 = .ok (.isub, 1) := by decide +kernel
theorem d_Mo_general_61 : decode c_Mo_general 61 = .ok (.iload_n 2, 1) := by decide +kernel
theorem d_Mo_general_62 : decode c_Mo_general 62 = .ok (.invokevirtual 206, 3) := by decide +kernel
theorem d_Mo_general_65 : decode c_Mo_general 65 = .ok (.aload_n 0, 1) := by decide +kernel
theorem d_Mo_general_66 : decode c_Mo_general 66 = .ok (.getfield 79, 3) := by decide +kernel
theorem d_Mo_general_69 : decode c_Mo_general 69 = .ok (.ifCond .eq 4, 3) := by decide +kernel
theorem d_Mo_general_72 : decode c_Mo_general 72 = .ok (.return_, 1) := by decide +kernel
theorem d_Mo_general_73 : decode c_Mo_general 73 = .ok (.aload_n 0, 1) := by decide +kernel
theorem d_Mo_general_74 : decode c_Mo_general 74 = .ok (.getfield 156, 3) := by decide +kernel
theorem d_Mo_general_77 : decode c_Mo_general 77 = .ok (.istore 6, 2) := by decide +kernel
theorem d_Mo_general_79 : decode c_Mo_general 79 = .ok (.iload 5, 2) := by decide +kernel
theorem d_Mo_general_81 : decode c_Mo_general 81 = .ok (.ifCond .ne 36, 3) := by decide +kernel
theorem d_Mo_general_84 : decode c_Mo_general 84 = .ok (.iconst 0, 1) := by decide +kernel
theorem d_Mo_general_85 : decode c_Mo_general 85 = .ok (.istore 6, 2) := by decide +kernel
theorem d_Mo_general_87 : decode c_Mo_general 87 = .ok (.aload_n 0, 1) := by decide +kernel
theorem d_Mo_general_88 : decode c_Mo_general 88 = .ok (.getfield 27, 3) := by decide +kernel
theorem d_Mo_general_91 : decode c_Mo_general 91 = .ok (.iload 6, 2) := by decide +kernel
theorem d_Mo_general_93 : decode c_Mo_general 93 = .ok (.iaload, 1) := by decide +kernel
theorem d_Mo_general_94 : decode c_Mo_general 94 = .ok (.bipush 101, 2) := by decide +kernel
theorem d_Mo_general_96 : decode c_Mo_general 96 = .ok (.if_icmp .eq 21, 3) := by decide +kernel
theorem d_Mo_general_99 : decode c_Mo_general 99 = .ok (.aload_n 0, 1) := by decide +kernel
theorem d_Mo_general_100 : decode c_Mo_general 100 = .ok (.getfield 27, 3) := by decide +kernel
theorem d_Mo_general_103 : decode c_Mo_general 103 = .ok (.iload 6, 2) := by decide +kernel
theorem d_Mo_general_105 : decode c_Mo_general 105 = .ok (.iaload, 1) := by decide +kernel
theorem d_Mo_general_106 : decode c_Mo_general 106 = .ok (.bipush 69, 2) := by decide +kernel
theorem d_Mo_general_108 : decode c_Mo_general 108 = .ok (.if_icmp .eq 9, 3) := by decide +kernel
theorem d_Mo_general_111 : decode c_Mo_general 111 = .ok (.iinc 6 1, 3) := by decide +kernel
theorem d_Mo_general_114 : decode c_Mo_general 114 = .ok (.goto (-27), 3) := by decide +kernel
theorem d_Mo_general_117 : decode c_Mo_general 117 = .ok (.iconst 0, 1) := by decide +kernel
theorem d_Mo_general_118 : decode c_Mo_general 118 = .ok (.istore 7, 2) := by decide +kernel
theorem d_Mo_general_120 : decode c_Mo_general 120 = .ok (.iload 7, 2) := by decide +kernel
theorem d_Mo_general_122 : decode c_Mo_general 122 = .ok (.iload 6, 2) := by decide +kernel
theorem d_Mo_general_124 : decode c_Mo_general 124 = .ok (.if_icmp .ge 21, 3) := by decide +kernel
theorem d_Mo_general_127 : decode c_Mo_general 127 = .ok (.aload_n 0, 1) := by decide +kernel
theorem d_Mo_general_128 : decode c_Mo_general 128 = .ok (.getfield 27, 3) := by decide +kernel
theorem d_Mo_general_131 : decode c_Mo_general 131 = .ok (.iload 7, 2) := by decide +kernel
theorem d_Mo_general_133 : decode c_Mo_general 133 = .ok (.iaload, 1) := by decide +kernel
theorem d_Mo_general_134 : decode c_Mo_general 134 = .ok (.bipush 46, 2) := by decide +kernel
theorem d_Mo_general_136 : decode c_Mo_general 136 = .ok (.if_icmp .eq 9, 3) := by decide +kernel
theorem d_Mo_general_139 : decode c_Mo_general 139 = .ok (.iinc 7 1, 3) := by decide +kernel
theorem d_Mo_general_142 : decode c_Mo_general 142 = .ok (.goto (-22), 3) := by decide +kernel
theorem d_Mo_general_145 : decode c_Mo_general 145 = .ok (.iload 7, 2) := by decide +kernel
theorem d_Mo_general_147 : decode c_Mo_general 147 = .ok (.iload 6, 2) := by decide +kernel
theorem d_Mo_general_149 : decode c_Mo_general 149 = .ok (.if_icmp .ne 4, 3) := by decide +kernel
theorem d_Mo_general_152 : decode c_Mo_general 152 = .ok (.return_, 1) := by decide +kernel
theorem d_Mo_general_153 : decode c_Mo_general 153 = .ok (.iload 6, 2) := by decide +kernel
theorem d_Mo_general_155 : decode c_Mo_general 155 = .ok (.istore 8, 2) := by decide +kernel
theorem d_Mo_general_157 : decode c_Mo_general 157 = .ok (.aload_n 0, 1) := by decide +kernel
theorem d_Mo_general_158 : decode c_Mo_general 158 = .ok (.getfield 27, 3) := by decide +kernel
theorem d_Mo_general_161 : decode c_Mo_general 161 = .ok (.iload 8, 2) := by decide +kernel
theorem d_Mo_general_163 : decode c_Mo_general 163 = .ok (.iconst 1, 1) := by decide +kernel
theorem d_Mo_general_164 : decode c_Mo_general 164 = .ok (.isub, 1) := by decide +kernel
theorem d_Mo_general_165 : decode c_Mo_general 165 = .ok (.iaload, 1) := by decide +kernel
theorem d_Mo_general_166 : decode c_Mo_general 166 = .ok (.bipush 48, 2) := by decide +kernel
theorem d_Mo_general_168 : decode c_Mo_general 168 = .ok (.if_icmp .ne 9, 3) := by decide +kernel
theorem d_Mo_general_171 : decode c_Mo_general 171 = .ok (.iinc 8 (-1), 3) := by decide +kernel
theorem d_Mo_general_174 : decode c_Mo_general 174 = .ok (.goto (-17), 3) := by decide +kernel
theorem d_Mo_general_177 : decode c_Mo_general 177 = .ok (.aload_n 0, 1) := by decide +kernel
theorem d_Mo_general_178 : decode c_Mo_general 178 = .ok (.getfield 27, 3) := by decide +kernel
theorem d_Mo_general_181 : decode c_Mo_general 181 = .ok (.iload 8, 2) := by decide +kernel
theorem d_Mo_general_183 : decode c_Mo_general 183 = .ok (.iconst 1, 1) := by decide +kernel
theorem d_Mo_general_184 : decode c_Mo_general 184 = .ok (.isub, 1) := by decide +kernel
theorem d_Mo_general_185 : decode c_Mo_general 185 = .ok (.iaload, 1) := by decide +kernel
theorem d_Mo_general_186 : decode c_Mo_general 186 = .ok (.bipush 46, 2) := by decide +kernel
theorem d_Mo_general_188 : decode c_Mo_general 188 = .ok (.if_icmp .ne 6, 3) := by decide +kernel
theorem d_Mo_general_191 : decode c_Mo_general 191 = .ok (.iinc 8 (-1), 3) := by decide +kernel
theorem d_Mo_general_194 : decode c_Mo_general 194 = .ok (.iload 6, 2) := by decide +kernel
theorem d_Mo_general_196 : decode c_Mo_general 196 = .ok (.istore 9, 2) := by decide +kernel
theorem d_Mo_general_198 : decode c_Mo_general 198 = .ok (.iload 9, 2) := by decide +kernel
theorem d_Mo_general_200 : decode c_Mo_general 200 = .ok (.aload_n 0, 1) := by decide +kernel
theorem d_Mo_general_201 : decode c_Mo_general 201 = .ok (.getfield 156, 3) := by decide +kernel
theorem d_Mo_general_204 : decode c_Mo_general 204 = .ok (.if_icmp .ge 29, 3) := by decide +kernel
theorem d_Mo_general_207 : decode c_Mo_general 207 = .ok (.aload_n 0, 1) := by decide +kernel
theorem d_Mo_general_208 : decode c_Mo_general 208 = .ok (.getfield 27, 3) := by decide +kernel
theorem d_Mo_general_211 : decode c_Mo_general 211 = .ok (.iload 8, 2) := by decide +kernel
theorem d_Mo_general_213 : decode c_Mo_general 213 = .ok (.iload 9, 2) := by decide +kernel
theorem d_Mo_general_215 : decode c_Mo_general 215 = .ok (.iadd, 1) := by decide +kernel
theorem d_Mo_general_216 : decode c_Mo_general 216 = .ok (.iload 6, 2) := by decide +kernel
theorem d_Mo_general_218 : decode c_Mo_general 218 = .ok (.isub, 1) := by decide +kernel
theorem d_Mo_general_219 : decode c_Mo_general 219 = .ok (.aload_n 0, 1) := by decide +kernel
theorem d_Mo_general_220 : decode c_Mo_general 220 = .ok (.getfield 27, 3) := by decide +kernel
theorem d_Mo_general_223 : decode c_Mo_general 223 = .ok (.iload 9, 2) := by decide +kernel
theorem d_Mo_general_225 : decode c_Mo_general 225 = .ok (.iaload, 1) := by decide +kernel
theorem d_Mo_general_226 : decode c_Mo_general 226 = .ok (.iastore, 1) := by decide +kernel
theorem d_Mo_general_227 : decode c_Mo_general 227 = .ok (.iinc 9 1, 3) := by decide +kernel
theorem d_Mo_general_230 : decode c_Mo_general 230 = .ok (.goto (-32), 3) := by decide +kernel
theorem d_Mo_general_233 : decode c_Mo_general 233 = .ok (.aload_n 0, 1) := by decide +kernel
theorem d_Mo_general_234 : decode c_Mo_general 234 = .ok (.dup, 1) := by decide +kernel
theorem d_Mo_general_235 : decode c_Mo_general 235 = .ok (.getfield 156, 3) := by decide +kernel
theorem d_Mo_general_238 : decode c_Mo_general 238 = .ok (.iload 6, 2) := by decide +kernel
theorem d_Mo_general_240 : decode c_Mo_general 240 = .ok (.iload 8, 2) := by decide +kernel
theorem d_Mo_general_242 : decode c_Mo_general 242 = .ok (.isub, 1) := by decide +kernel
theorem d_Mo_general_243 : decode c_Mo_general 243 = .ok (.isub, 1) := by decide +kernel
theorem d_Mo_general_244 : decode c_Mo_general 244 = .ok (.putfield 156, 3) := by decide +kernel
theorem d_Mo_general_247 : decode c_Mo_general 247 = .ok (.return_, 1) := by decide +kernel
theorem d_Mo_hexadecimal_0 : decode c_Mo_hexadecimal 0 = .ok (.lload_n 1, 1) := by decide +kernel
theorem d_Mo_hexadecimal_1 : decode c_Mo_hexadecimal 1 = .ok (.bipush 52, 2) := by decide +kernel
theorem d_Mo_hexadecimal_3 : decode c_Mo_hexadecimal 3 = .ok (.lushr, 1) := by decide +kernel
theorem d_Mo_hexadecimal_4 : decode c_Mo_hexadecimal 4 = .ok (.l2i, 1) := by decide +kernel
theorem d_Mo_hexadecimal_5 : decode c_Mo_hexadecimal 5 = .ok (.sipush 2047, 3) := by decide +kernel
theorem d_Mo_hexadecimal_8 : decode c_Mo_hexadecimal 8 = .ok (.iand, 1) := by decide +kernel
theorem d_Mo_hexadecimal_9 : decode c_Mo_hexadecimal 9 = .ok (.istore 5, 2) := by decide +kernel
theorem d_Mo_hexadecimal_11 : decode c_Mo_hexadecimal 11 = .ok (.lload_n 1, 1) := by decide +kernel
theorem d_Mo_hexadecimal_12 : decode c_Mo_hexadecimal 12 = .ok (.ldc2_w 210, 3) := by decide +kernel
theorem d_Mo_hexadecimal_15 : decode c_Mo_hexadecimal 15 = .ok (.land, 1) := by decide +kernel
theorem d_Mo_hexadecimal_16 : decode c_Mo_hexadecimal 16 = .ok (.iload 5, 2) := by decide +kernel
theorem d_Mo_hexadecimal_18 : decode c_Mo_hexadecimal 18 = .ok (.ifCond .ne 7, 3) := by decide +kernel
theorem d_Mo_hexadecimal_21 : decode c_Mo_hexadecimal 21 = .ok (.lconst 0, 1) := by decide +kernel
theorem d_Mo_hexadecimal_22 : decode c_Mo_hexadecimal 22 = .ok (.goto 6, 3) := by decide +kernel
theorem d_Mo_hexadecimal_25 : decode c_Mo_hexadecimal 25 = .ok (.ldc2_w 212, 3) := by decide +kernel
theorem d_Mo_hexadecimal_28 : decode c_Mo_hexadecimal 28 = .ok (.lor, 1) := by decide +kernel
theorem d_Mo_hexadecimal_29 : decode c_Mo_hexadecimal 29 = .ok (.lstore 6, 2) := by decide +kernel
theorem d_Mo_hexadecimal_31 : decode c_Mo_hexadecimal 31 = .ok (.iload_n 3, 1) := by decide +kernel
theorem d_Mo_hexadecimal_32 : decode c_Mo_hexadecimal 32 = .ok (.ifCond .ge 8, 3) := by decide +kernel
theorem d_Mo_hexadecimal_35 : decode c_Mo_hexadecimal 35 = .ok (.bipush 13, 2) := by decide +kernel
theorem d_Mo_hexadecimal_37 : decode c_Mo_hexadecimal 37 = .ok (.goto 4, 3) := by decide +kernel
theorem d_Mo_hexadecimal_40 : decode c_Mo_hexadecimal 40 = .ok (.iload_n 3, 1) := by decide +kernel
theorem d_Mo_hexadecimal_41 : decode c_Mo_hexadecimal 41 = .ok (.istore 8, 2) := by decide +kernel
theorem d_Mo_hexadecimal_43 : decode c_Mo_hexadecimal 43 = .ok (.iload_n 3, 1) := by decide +kernel
theorem d_Mo_hexadecimal_44 : decode c_Mo_hexadecimal 44 = .ok (.ifCond .lt 81, 3) := by decide +kernel
theorem d_Mo_hexadecimal_47 : decode c_Mo_hexadecimal 47 = .ok (.iload_n 3, 1) := by decide +kernel
theorem d_Mo_hexadecimal_48 : decode c_Mo_hexadecimal 48 = .ok (.bipush 13, 2) := by decide +kernel
theorem d_Mo_hexadecimal_50 : decode c_Mo_hexadecimal 50 = .ok (.if_icmp .ge 75, 3) := by decide +kernel
theorem d_Mo_hexadecimal_53 : decode c_Mo_hexadecimal 53 = .ok (.bipush 52, 2) := by decide +kernel
theorem d_Mo_hexadecimal_55 : decode c_Mo_hexadecimal 55 = .ok (.iconst 4, 1) := by decide +kernel
theorem d_Mo_hexadecimal_56 : decode c_Mo_hexadecimal 56 = .ok (.iload_n 3, 1) := by decide +kernel
theorem d_Mo_hexadecimal_57 : decode c_Mo_hexadecimal 57 = .ok (.imul, 1) := by decide +kernel
theorem d_Mo_hexadecimal_58 : decode c_Mo_hexadecimal 58 = .ok (.isub, 1) := by decide +kernel
theorem d_Mo_hexadecimal_59 : decode c_Mo_hexadecimal 59 = .ok (.istore 9, 2) := by decide +kernel
theorem d_Mo_hexadecimal_61 : decode c_Mo_hexadecimal 61 = .ok (.lload 6, 2) := by decide +kernel
theorem d_Mo_hexadecimal_63 : decode c_Mo_hexadecimal 63 = .ok (.lconst 1, 1) := by decide +kernel
theorem d_Mo_hexadecimal_64 : decode c_Mo_hexadecimal 64 = .ok (.iload 9, 2) := by decide +kernel
theorem d_Mo_hexadecimal_66 : decode c_Mo_hexadecimal 66 = .ok (.lshl, 1) := by decide +kernel
theorem d_Mo_hexadecimal_67 : decode c_Mo_hexadecimal 67 = .ok (.lconst 1, 1) := by decide +kernel
theorem d_Mo_hexadecimal_68 : decode c_Mo_hexadecimal 68 = .ok (.lsub, 1) := by decide +kernel
theorem d_Mo_hexadecimal_69 : decode c_Mo_hexadecimal 69 = .ok (.land, 1) := by decide +kernel
theorem d_Mo_hexadecimal_70 : decode c_Mo_hexadecimal 70 = .ok (.lstore 10, 2) := by decide +kernel
theorem d_Mo_hexadecimal_72 : decode c_Mo_hexadecimal 72 = .ok (.lconst 1, 1) := by decide +kernel
theorem d_Mo_hexadecimal_73 : decode c_Mo_hexadecimal 73 = .ok (.iload 9, 2) := by decide +kernel
theorem d_Mo_hexadecimal_75 : decode c_Mo_hexadecimal 75 = .ok (.iconst 1, 1) := by decide +kernel
theorem d_Mo_hexadecimal_76 : decode c_Mo_hexadecimal 76 = .ok (.isub, 1) := by decide +kernel
theorem d_Mo_hexadecimal_77 : decode c_Mo_hexadecimal 77 = .ok (.lshl, 1) := by decide +kernel
theorem d_Mo_hexadecimal_78 : decode c_Mo_hexadecimal 78 = .ok (.lstore 12, 2) := by decide +kernel
theorem d_Mo_hexadecimal_80 : decode c_Mo_hexadecimal 80 = .ok (.lload 6, 2) := by decide +kernel
theorem d_Mo_hexadecimal_82 : decode c_Mo_hexadecimal 82 = .ok (.iload 9, 2) := by decide +kernel
theorem d_Mo_hexadecimal_84 : decode c_Mo_hexadecimal 84 = .ok (.lushr, 1) := by decide +kernel
theorem d_Mo_hexadecimal_85 : decode c_Mo_hexadecimal 85 = .ok (.lstore 6, 2) := by decide +kernel
theorem d_Mo_hexadecimal_87 : decode c_Mo_hexadecimal 87 = .ok (.lload 10, 2) := by decide +kernel
theorem d_Mo_hexadecimal_89 : decode c_Mo_hexadecimal 89 = .ok (.lload 12, 2) := by decide +kernel
theorem d_Mo_hexadecimal_91 : decode c_Mo_hexadecimal 91 = .ok (.lcmp, 1) := by decide +kernel
theorem d_Mo_hexadecimal_92 : decode c_Mo_hexadecimal 92 = .ok (.ifCond .gt 20, 3) := by decide +kernel
theorem d_Mo_hexadecimal_95 : decode c_Mo_hexadecimal 95 = .ok (.lload 10, 2) := by decide +kernel
theorem d_Mo_hexadecimal_97 : decode c_Mo_hexadecimal 97 = .ok (.lload 12, 2) := by decide +kernel
theorem d_Mo_hexadecimal_99 : decode c_Mo_hexadecimal 99 = .ok (.lcmp, 1) := by decide +kernel
theorem d_Mo_hexadecimal_100 : decode c_Mo_hexadecimal 100 = .ok (.ifCond .ne 18, 3) := by decide +kernel
theorem d_Mo_hexadecimal_103 : decode c_Mo_hexadecimal 103 = .ok (.lload 6, 2) := by decide +kernel
theorem d_Mo_hexadecimal_105 : decode c_Mo_hexadecimal 105 = .ok (.lconst 1, 1) := by decide +kernel
theorem d_Mo_hexadecimal_106 : decode c_Mo_hexadecimal 106 = .ok (.land, 1) := by decide +kernel
theorem d_Mo_hexadecimal_107 : decode c_Mo_hexadecimal 107 = .ok (.lconst 1, 1) := by decide +kernel
theorem d_Mo_hexadecimal_108 : decode c_Mo_hexadecimal 108 = .ok (.lcmp, 1) := by decide +kernel
theorem d_Mo_hexadecimal_109 : decode c_Mo_hexadecimal 109 = .ok (.ifCond .ne 9, 3) := by decide +kernel
theorem d_Mo_hexadecimal_112 : decode c_Mo_hexadecimal 112 = .ok (.lload 6, 2) := by decide +kernel
theorem d_Mo_hexadecimal_114 : decode c_Mo_hexadecimal 114 = .ok (.lconst 1, 1) := by decide +kernel
theorem d_Mo_hexadecimal_115 : decode c_Mo_hexadecimal 115 = .ok (.ladd, 1) := by decide +kernel
theorem d_Mo_hexadecimal_116 : decode c_Mo_hexadecimal 116 = .ok (.lstore 6, 2) := by decide +kernel
theorem d_Mo_hexadecimal_118 : decode c_Mo_hexadecimal 118 = .ok (.lload 6, 2) := by decide +kernel
theorem d_Mo_hexadecimal_120 : decode c_Mo_hexadecimal 120 = .ok (.iload 9, 2) := by decide +kernel
theorem d_Mo_hexadecimal_122 : decode c_Mo_hexadecimal 122 = .ok (.lshl, 1) := by decide +kernel
theorem d_Mo_hexadecimal_123 : decode c_Mo_hexadecimal 123 = .ok (.lstore 6, 2) := by decide +kernel
theorem d_Mo_hexadecimal_125 : decode c_Mo_hexadecimal 125 = .ok (.iload_n 3, 1) := by decide +kernel
theorem d_Mo_hexadecimal_126 : decode c_Mo_hexadecimal 126 = .ok (.ifCond .ge 33, 3) := by decide +kernel
theorem d_Mo_hexadecimal_129 : decode c_Mo_hexadecimal 129 = .ok (.iload 8, 2) := by decide +kernel
theorem d_Mo_hexadecimal_131 : decode c_Mo_hexadecimal 131 = .ok (.ifCond .le 28, 3) := by decide +kernel
theorem d_Mo_hexadecimal_134 : decode c_Mo_hexadecimal 134 = .ok (.lload 6, 2) := by decide +kernel
theorem d_Mo_hexadecimal_136 : decode c_Mo_hexadecimal 136 = .ok (.bipush 52, 2) := by decide +kernel
theorem d_Mo_hexadecimal_138 : decode c_Mo_hexadecimal 138 = .ok (.iconst 4, 1) := by decide +kernel
theorem d_Mo_hexadecimal_139 : decode c_Mo_hexadecimal 139 = .ok (.iload 8, 2) := by decide +kernel
theorem d_Mo_hexadecimal_141 : decode c_Mo_hexadecimal 141 = .ok (.imul, 1) := by decide +kernel
theorem d_Mo_hexadecimal_142 : decode c_Mo_hexadecimal 142 = .ok (.isub, 1) := by decide +kernel
theorem d_Mo_hexadecimal_143 : decode c_Mo_hexadecimal 143 = .ok (.lushr, 1) := by decide +kernel
theorem d_Mo_hexadecimal_144 : decode c_Mo_hexadecimal 144 = .ok (.ldc2_w 214, 3) := by decide +kernel
theorem d_Mo_hexadecimal_147 : decode c_Mo_hexadecimal 147 = .ok (.land, 1) := by decide +kernel
theorem d_Mo_hexadecimal_148 : decode c_Mo_hexadecimal 148 = .ok (.lconst 0, 1) := by decide +kernel
theorem d_Mo_hexadecimal_149 : decode c_Mo_hexadecimal 149 = .ok (.lcmp, 1) := by decide +kernel
theorem d_Mo_hexadecimal_150 : decode c_Mo_hexadecimal 150 = .ok (.ifCond .ne 9, 3) := by decide +kernel
theorem d_Mo_hexadecimal_153 : decode c_Mo_hexadecimal 153 = .ok (.iinc 8 (-1), 3) := by decide +kernel
theorem d_Mo_hexadecimal_156 : decode c_Mo_hexadecimal 156 = .ok (.goto (-27), 3) := by decide +kernel
theorem d_Mo_hexadecimal_159 : decode c_Mo_hexadecimal 159 = .ok (.aload_n 0, 1) := by decide +kernel
theorem d_Mo_hexadecimal_160 : decode c_Mo_hexadecimal 160 = .ok (.getfield 24, 3) := by decide +kernel
theorem d_Mo_hexadecimal_163 : decode c_Mo_hexadecimal 163 = .ok (.aload_n 0, 1) := by decide +kernel
theorem d_Mo_hexadecimal_164 : decode c_Mo_hexadecimal 164 = .ok (.dup, 1) := by decide +kernel
theorem d_Mo_hexadecimal_165 : decode c_Mo_hexadecimal 165 = .ok (.getfield 153, 3) := by decide +kernel
theorem d_Mo_hexadecimal_168 : decode c_Mo_hexadecimal 168 = .ok (.dup_x1, 1) := by decide +kernel
theorem d_Mo_hexadecimal_169 : decode c_Mo_hexadecimal 169 = .ok (.iconst 1, 1) := by decide +kernel
theorem d_Mo_hexadecimal_170 : decode c_Mo_hexadecimal 170 = .ok (.iadd, 1) := by decide +kernel
theorem d_Mo_hexadecimal_171 : decode c_Mo_hexadecimal 171 = .ok (.putfield 153, 3) := by decide +kernel
theorem d_Mo_hexadecimal_174 : decode c_Mo_hexadecimal 174 = .ok (.bipush 48, 2) := by decide +kernel
theorem d_Mo_hexadecimal_176 : decode c_Mo_hexadecimal 176 = .ok (.iastore, 1) := by decide +kernel
theorem d_Mo_hexadecimal_177 : decode c_Mo_hexadecimal 177 = .ok (.aload_n 0, 1) := by decide +kernel
theorem d_Mo_hexadecimal_178 : decode c_Mo_hexadecimal 178 = .ok (.getfield 24, 3) := by decide +kernel
theorem d_Mo_hexadecimal_181 : decode c_Mo_hexadecimal 181 = .ok (.aload_n 0, 1) := by decide +kernel
theorem d_Mo_hexadecimal_182 : decode c_Mo_hexadecimal 182 = .ok (.dup, 1) := by decide +kernel
theorem d_Mo_hexadecimal_183 : decode c_Mo_hexadecimal 183 = .ok (.getfield 153, 3) := by decide +kernel
theorem d_Mo_hexadecimal_186 : decode c_Mo_hexadecimal 186 = .ok (.dup_x1, 1) := by decide +kernel
theorem d_Mo_hexadecimal_187 : decode c_Mo_hexadecimal 187 = .ok (.iconst 1, 1) := by decide +kernel
theorem d_Mo_hexadecimal_188 : decode c_Mo_hexadecimal 188 = .ok (.iadd, 1) := by decide +kernel
theorem d_Mo_hexadecimal_189 : decode c_Mo_hexadecimal 189 = .ok (.putfield 153, 3) := by decide +kernel
theorem d_Mo_hexadecimal_192 : decode c_Mo_hexadecimal 192 = .ok (.iload 4, 2) := by decide +kernel
theorem d_Mo_hexadecimal_194 : decode c_Mo_hexadecimal 194 = .ok (.ifCond .eq 8, 3) := by decide +kernel
theorem d_Mo_hexadecimal_197 : decode c_Mo_hexadecimal 197 = .ok (.bipush 88, 2) := by decide +kernel
theorem d_Mo_hexadecimal_199 : decode c_Mo_hexadecimal 199 = .ok (.goto 5, 3) := by decide +kernel
theorem d_Mo_hexadecimal_202 : decode c_Mo_hexadecimal 202 = .ok (.bipush 120, 2) := by decide +kernel
theorem d_Mo_hexadecimal_204 : decode c_Mo_hexadecimal 204 = .ok (.iastore, 1) := by decide +kernel
theorem d_Mo_hexadecimal_205 : decode c_Mo_hexadecimal 205 = .ok (.aload_n 0, 1) := by decide +kernel
theorem d_Mo_hexadecimal_206 : decode c_Mo_hexadecimal 206 = .ok (.bipush 48, 2) := by decide +kernel
theorem d_Mo_hexadecimal_208 : decode c_Mo_hexadecimal 208 = .ok (.lload 6, 2) := by decide +kernel
theorem d_Mo_hexadecimal_210 : decode c_Mo_hexadecimal 210 = .ok (.bipush 52, 2) := by decide +kernel
theorem d_Mo_hexadecimal_212 : decode c_Mo_hexadecimal 212 = .ok (.lushr, 1) := by decide +kernel
theorem d_Mo_hexadecimal_213 : decode c_Mo_hexadecimal 213 = .ok (.l2i, 1) := by decide +kernel
theorem d_Mo_hexadecimal_214 : decode c_Mo_hexadecimal 214 = .ok (.iadd, 1) := by decide +kernel
theorem d_Mo_hexadecimal_215 : decode c_Mo_hexadecimal 215 = .ok (.invokevirtual 162, 3) := by decide +kernel
theorem d_Mo_hexadecimal_218 : decode c_Mo_hexadecimal 218 = .ok (.iload 8, 2) := by decide +kernel
theorem d_Mo_hexadecimal_220 : decode c_Mo_hexadecimal 220 = .ok (.ifCond .gt 10, 3) := by decide +kernel
theorem d_Mo_hexadecimal_223 : decode c_Mo_hexadecimal 223 = .ok (.aload_n 0, 1) := by decide +kernel
theorem d_Mo_hexadecimal_224 : decode c_Mo_hexadecimal 224 = .ok (.getfield 79, 3) := by decide +kernel
theorem d_Mo_hexadecimal_227 : decode c_Mo_hexadecimal 227 = .ok (.ifCond .eq 9, 3) := by decide +kernel
theorem d_Mo_hexadecimal_230 : decode c_Mo_hexadecimal 230 = .ok (.aload_n 0, 1) := by decide +kernel
theorem d_Mo_hexadecimal_231 : decode c_Mo_hexadecimal 231 = .ok (.bipush 46, 2) := by decide +kernel
theorem d_Mo_hexadecimal_233 : decode c_Mo_hexadecimal 233 = .ok (.invokevirtual 162, 3) := by decide +kernel
theorem d_Mo_hexadecimal_236 : decode c_Mo_hexadecimal 236 = .ok (.iconst 1, 1) := by decide +kernel
theorem d_Mo_hexadecimal_237 : decode c_Mo_hexadecimal 237 = .ok (.istore 9, 2) := by decide +kernel
theorem d_Mo_hexadecimal_239 : decode c_Mo_hexadecimal 239 = .ok (.iload 9, 2) := by decide +kernel
theorem d_Mo_hexadecimal_241 : decode c_Mo_hexadecimal 241 = .ok (.iload 8, 2) := by decide +kernel
theorem d_Mo_hexadecimal_243 : decode c_Mo_hexadecimal 243 = .ok (.if_icmp .gt 44, 3) := by decide +kernel
theorem d_Mo_hexadecimal_246 : decode c_Mo_hexadecimal 246 = .ok (.aload_n 0, 1) := by decide +kernel
theorem d_Mo_hexadecimal_247 : decode c_Mo_hexadecimal 247 = .ok (.iload 9, 2) := by decide +kernel
theorem d_Mo_hexadecimal_249 : decode c_Mo_hexadecimal 249 = .ok (.bipush 13, 2) := by decide +kernel
theorem d_Mo_hexadecimal_251 : decode c_Mo_hexadecimal 251 = .ok (.if_icmp .le 8, 3) := by decide +kernel
theorem d_Mo_hexadecimal_254 : decode c_Mo_hexadecimal 254 = .ok (.bipush 48, 2) := by decide +kernel
theorem d_Mo_hexadecimal_256 : decode c_Mo_hexadecimal 256 = .ok (.goto 22, 3) := by decide +kernel
theorem d_Mo_hexadecimal_259 : decode c_Mo_hexadecimal 259 = .ok (.lload 6, 2) := by decide +kernel
theorem d_Mo_hexadecimal_261 : decode c_Mo_hexadecimal 261 = .ok (.bipush 52, 2) := by decide +kernel
theorem d_Mo_hexadecimal_263 : decode c_Mo_hexadecimal 263 = .ok (.iconst 4, 1) := by decide +kernel
theorem d_Mo_hexadecimal_264 : decode c_Mo_hexadecimal 264 = .ok (.iload 9, 2) := by decide +kernel
theorem d_Mo_hexadecimal_266 : decode c_Mo_hexadecimal 266 = .ok (.imul, 1) := by decide +kernel
theorem d_Mo_hexadecimal_267 : decode c_Mo_hexadecimal 267 = .ok (.isub, 1) := by decide +kernel
theorem d_Mo_hexadecimal_268 : decode c_Mo_hexadecimal 268 = .ok (.lushr, 1) := by decide +kernel
theorem d_Mo_hexadecimal_269 : decode c_Mo_hexadecimal 269 = .ok (.l2i, 1) := by decide +kernel
theorem d_Mo_hexadecimal_270 : decode c_Mo_hexadecimal 270 = .ok (.bipush 15, 2) := by decide +kernel
theorem d_Mo_hexadecimal_272 : decode c_Mo_hexadecimal 272 = .ok (.iand, 1) := by decide +kernel
theorem d_Mo_hexadecimal_273 : decode c_Mo_hexadecimal 273 = .ok (.iload 4, 2) := by decide +kernel
theorem d_Mo_hexadecimal_275 : decode c_Mo_hexadecimal 275 = .ok (.invokestatic 185, 3) := by decide +kernel
theorem d_Mo_hexadecimal_278 : decode c_Mo_hexadecimal 278 = .ok (.invokevirtual 162, 3) := by decide +kernel
theorem d_Mo_hexadecimal_281 : decode c_Mo_hexadecimal 281 = .ok (.iinc 9 1, 3) := by decide +kernel
theorem d_Mo_hexadecimal_284 : decode c_Mo_hexadecimal 284 = .ok (.goto (-45), 3) := by decide +kernel
theorem d_Mo_hexadecimal_287 : decode c_Mo_hexadecimal 287 = .ok (.lload_n 1, 1) := by decide +kernel
theorem d_Mo_hexadecimal_288 : decode c_Mo_hexadecimal 288 = .ok (.ldc2_w 216, 3) := by decide +kernel
theorem d_Mo_hexadecimal_291 : decode c_Mo_hexadecimal 291 = .ok (.land, 1) := by decide +kernel
theorem d_Mo_hexadecimal_292 : decode c_Mo_hexadecimal 292 = .ok (.lconst 0, 1) := by decide +kernel
theorem d_Mo_hexadecimal_293 : decode c_Mo_hexadecimal 293 = .ok (.lcmp, 1) := by decide +kernel
theorem d_Mo_hexadecimal_294 : decode c_Mo_hexadecimal 294 = .ok (.ifCond .ne 7, 3) := by decide +kernel
theorem d_Mo_hexadecimal_297 : decode c_Mo_hexadecimal 297 = .ok (.iconst 0, 1) := by decide +kernel
theorem d_Mo_hexadecimal_298 : decode c_Mo_hexadecimal 298 = .ok (.goto 20, 3) := by decide +kernel
theorem d_Mo_hexadecimal_301 : decode c_Mo_hexadecimal 301 = .ok (.iload 5, 2) := by decide +kernel
theorem d_Mo_hexadecimal_303 : decode c_Mo_hexadecimal 303 = .ok (.ifCond .ne 9, 3) := by decide +kernel
theorem d_Mo_hexadecimal_306 : decode c_Mo_hexadecimal 306 = .ok (.sipush (-1022), 3) := by decide +kernel
theorem d_Mo_hexadecimal_309 : decode c_Mo_hexadecimal 309 = .ok (.goto 9, 3) := by decide +kernel
theorem d_Mo_hexadecimal_312 : decode c_Mo_hexadecimal 312 = .ok (.iload 5, 2) := by decide +kernel
theorem d_Mo_hexadecimal_314 : decode c_Mo_hexadecimal 314 = .ok (.sipush 1023, 3) := by decide +kernel
theorem d_Mo_hexadecimal_317 : decode c_Mo_hexadecimal 317 = .ok (.isub, 1) := by decide +kernel
theorem d_Mo_hexadecimal_318 : decode c_Mo_hexadecimal 318 = .ok (.istore 9, 2) := by decide +kernel
theorem d_Mo_hexadecimal_320 : decode c_Mo_hexadecimal 320 = .ok (.iload 9, 2) := by decide +kernel
theorem d_Mo_hexadecimal_322 : decode c_Mo_hexadecimal 322 = .ok (.ifCond .ge 9, 3) := by decide +kernel
theorem d_Mo_hexadecimal_325 : decode c_Mo_hexadecimal 325 = .ok (.iload 9, 2) := by decide +kernel
theorem d_Mo_hexadecimal_327 : decode c_Mo_hexadecimal 327 = .ok (.ineg, 1) := by decide +kernel
theorem d_Mo_hexadecimal_328 : decode c_Mo_hexadecimal 328 = .ok (.goto 5, 3) := by decide +kernel
theorem d_Mo_hexadecimal_331 : decode c_Mo_hexadecimal 331 = .ok (.iload 9, 2) := by decide +kernel
theorem d_Mo_hexadecimal_333 : decode c_Mo_hexadecimal 333 = .ok (.istore 10, 2) := by decide +kernel
theorem d_Mo_hexadecimal_335 : decode c_Mo_hexadecimal 335 = .ok (.aload_n 0, 1) := by decide +kernel
theorem d_Mo_hexadecimal_336 : decode c_Mo_hexadecimal 336 = .ok (.iload 4, 2) := by decide +kernel
theorem d_Mo_hexadecimal_338 : decode c_Mo_hexadecimal 338 = .ok (.ifCond .eq 8, 3) := by decide +kernel
theorem d_Mo_hexadecimal_341 : decode c_Mo_hexadecimal 341 = .ok (.bipush 80, 2) := by decide +kernel
theorem d_Mo_hexadecimal_343 : decode c_Mo_hexadecimal 343 = .ok (.goto 5, 3) := by decide +kernel
theorem d_Mo_hexadecimal_346 : decode c_Mo_hexadecimal 346 = .ok (.bipush 112, 2) := by decide +kernel
theorem d_Mo_hexadecimal_348 : decode c_Mo_hexadecimal 348 = .ok (.invokevirtual 162, 3) := by decide +kernel
theorem d_Mo_hexadecimal_351 : decode c_Mo_hexadecimal 351 = .ok (.aload_n 0, 1) := by decide +kernel
theorem d_Mo_hexadecimal_352 : decode c_Mo_hexadecimal 352 = .ok (.iload 9, 2) := by decide +kernel
theorem d_Mo_hexadecimal_354 : decode c_Mo_hexadecimal 354 = .ok (.ifCond .ge 8, 3) := by decide +kernel
theorem d_Mo_hexadecimal_357 : decode c_Mo_hexadecimal 357 = .ok (.bipush 45, 2) := by decide +kernel
theorem d_Mo_hexadecimal_359 : decode c_Mo_hexadecimal 359 = .ok (.goto 5, 3) := by decide +kernel
theorem d_Mo_hexadecimal_362 : decode c_Mo_hexadecimal 362 = .ok (.bipush 43, 2) := by decide +kernel
theorem d_Mo_hexadecimal_364 : decode c_Mo_hexadecimal 364 = .ok (.invokevirtual 162, 3) := by decide +kernel
theorem d_Mo_hexadecimal_367 : decode c_Mo_hexadecimal 367 = .ok (.iload 10, 2) := by decide +kernel
theorem d_Mo_hexadecimal_369 : decode c_Mo_hexadecimal 369 = .ok (.sipush 999, 3) := by decide +kernel
theorem d_Mo_hexadecimal_372 : decode c_Mo_hexadecimal 372 = .ok (.if_icmp .le 16, 3) := by decide +kernel
theorem d_Mo_hexadecimal_375 : decode c_Mo_hexadecimal 375 = .ok (.aload_n 0, 1) := by decide +kernel
theorem d_Mo_hexadecimal_376 : decode c_Mo_hexadecimal 376 = .ok (.bipush 48, 2) := by decide +kernel
theorem d_Mo_hexadecimal_378 : decode c_Mo_hexadecimal 378 = .ok (.iload 10, 2) := by decide +kernel
theorem d_Mo_hexadecimal_380 : decode c_Mo_hexadecimal 380 = .ok (.sipush 1000, 3) := by decide +kernel
theorem d_Mo_hexadecimal_383 : decode c_Mo_hexadecimal 383 = .ok (.idiv, 1) := by decide +kernel
theorem d_Mo_hexadecimal_384 : decode c_Mo_hexadecimal 384 = .ok (.iadd, 1) := by decide +kernel
theorem d_Mo_hexadecimal_385 : decode c_Mo_hexadecimal 385 = .ok (.invokevirtual 162, 3) := by decide +kernel
theorem d_Mo_hexadecimal_388 : decode c_Mo_hexadecimal 388 = .ok (.iload 10, 2) := by decide +kernel
theorem d_Mo_hexadecimal_390 : decode c_Mo_hexadecimal 390 = .ok (.bipush 99, 2) := by decide +kernel
theorem d_Mo_hexadecimal_392 : decode c_Mo_hexadecimal 392 = .ok (.if_icmp .le 18, 3) := by decide +kernel
theorem d_Mo_hexadecimal_395 : decode c_Mo_hexadecimal 395 = .ok (.aload_n 0, 1) := by decide +kernel
theorem d_Mo_hexadecimal_396 : decode c_Mo_hexadecimal 396 = .ok (.bipush 48, 2) := by decide +kernel
theorem d_Mo_hexadecimal_398 : decode c_Mo_hexadecimal 398 = .ok (.iload 10, 2) := by decide +kernel
theorem d_Mo_hexadecimal_400 : decode c_Mo_hexadecimal 400 = .ok (.bipush 100, 2) := by decide +kernel
theorem d_Mo_hexadecimal_402 : decode c_Mo_hexadecimal 402 = .ok (.idiv, 1) := by decide +kernel
theorem d_Mo_hexadecimal_403 : decode c_Mo_hexadecimal 403 = .ok (.bipush 10, 2) := by decide +kernel
theorem d_Mo_hexadecimal_405 : decode c_Mo_hexadecimal 405 = .ok (.irem, 1) := by decide +kernel
theorem d_Mo_hexadecimal_406 : decode c_Mo_hexadecimal 406 = .ok (.iadd, 1) := by decide +kernel
theorem d_Mo_hexadecimal_407 : decode c_Mo_hexadecimal 407 = .ok (.invokevirtual 162, 3) := by decide +kernel
theorem d_Mo_hexadecimal_410 : decode c_Mo_hexadecimal 410 = .ok (.iload 10, 2) := by decide +kernel
theorem d_Mo_hexadecimal_412 : decode c_Mo_hexadecimal 412 = .ok (.bipush 9, 2) := by decide +kernel
theorem d_Mo_hexadecimal_414 : decode c_Mo_hexadecimal 414 = .ok (.if_icmp .le 18, 3) := by decide +kernel
theorem d_Mo_hexadecimal_417 : decode c_Mo_hexadecimal 417 = .ok (.aload_n 0, 1) := by decide +kernel
theorem d_Mo_hexadecimal_418 : decode c_Mo_hexadecimal 418 = .ok (.bipush 48, 2) := by decide +kernel
theorem d_Mo_hexadecimal_420 : decode c_Mo_hexadecimal 420 = .ok (.iload 10, 2) := by decide +kernel
theorem d_Mo_hexadecimal_422 : decode c_Mo_hexadecimal 422 = .ok (.bipush 10, 2) := by decide +kernel
theorem d_Mo_hexadecimal_424 : decode c_Mo_hexadecimal 424 = .ok (.idiv, 1) := by decide +kernel
theorem d_Mo_hexadecimal_425 : decode c_Mo_hexadecimal 425 = .ok (.bipush 10, 2) := by decide +kernel
theorem d_Mo_hexadecimal_427 : decode c_Mo_hexadecimal 427 = .ok (.irem, 1) := by decide +kernel
theorem d_Mo_hexadecimal_428 : decode c_Mo_hexadecimal 428 = .ok (.iadd, 1) := by decide +kernel
theorem d_Mo_hexadecimal_429 : decode c_Mo_hexadecimal 429 = .ok (.invokevirtual 162, 3) := by decide +kernel
theorem d_Mo_hexadecimal_432 : decode c_Mo_hexadecimal 432 = .ok (.aload_n 0, 1) := by decide +kernel
theorem d_Mo_hexadecimal_433 : decode c_Mo_hexadecimal 433 = .ok (.bipush 48, 2) := by decide +kernel
theorem d_Mo_hexadecimal_435 : decode c_Mo_hexadecimal 435 = .ok (.iload 10, 2) := by decide +kernel
theorem d_Mo_hexadecimal_437 : decode c_Mo_hexadecimal 437 = .ok (.bipush 10, 2) := by decide +kernel
theorem d_Mo_hexadecimal_439 : decode c_Mo_hexadecimal 439 = .ok (.irem, 1) := by decide +kernel
theorem d_Mo_hexadecimal_440 : decode c_Mo_hexadecimal 440 = .ok (.iadd, 1) := by decide +kernel
theorem d_Mo_hexadecimal_441 : decode c_Mo_hexadecimal 441 = .ok (.invokevirtual 162, 3) := by decide +kernel
theorem d_Mo_hexadecimal_444 : decode c_Mo_hexadecimal 444 = .ok (.return_, 1) := by decide +kernel
theorem d_Mo_real_0 : decode c_Mo_real 0 = .ok (.iload_n 1, 1) := by decide +kernel
theorem d_Mo_real_1 : decode c_Mo_real 1 = .ok (.bipush 97, 2) := by decide +kernel
theorem d_Mo_real_3 : decode c_Mo_real 3 = .ok (.if_icmp .ge 7, 3) := by decide +kernel
theorem d_Mo_real_6 : decode c_Mo_real 6 = .ok (.iconst 1, 1) := by decide +kernel
theorem d_Mo_real_7 : decode c_Mo_real 7 = .ok (.goto 4, 3) := by decide +kernel
theorem d_Mo_real_10 : decode c_Mo_real 10 = .ok (.iconst 0, 1) := by decide +kernel
theorem d_Mo_real_11 : decode c_Mo_real 11 = .ok (.istore 4, 2) := by decide +kernel
theorem d_Mo_real_13 : decode c_Mo_real 13 = .ok (.iload 4, 2) := by decide +kernel
theorem d_Mo_real_15 : decode c_Mo_real 15 = .ok (.ifCond .eq 10, 3) := by decide +kernel
theorem d_Mo_real_18 : decode c_Mo_real 18 = .ok (.iload_n 1, 1) := by decide +kernel
theorem d_Mo_real_19 : decode c_Mo_real 19 = .ok (.bipush 32, 2) := by decide +kernel
theorem d_Mo_real_21 : decode c_Mo_real 21 = .ok (.iadd, 1) := by decide +kernel
theorem d_Mo_real_22 : decode c_Mo_real 22 = .ok (.goto 4, 3) := by decide +kernel
theorem d_Mo_real_25 : decode c_Mo_real 25 = .ok (.iload_n 1, 1) := by decide +kernel
theorem d_Mo_real_26 : decode c_Mo_real 26 = .ok (.istore 5, 2) := by decide +kernel
theorem d_Mo_real_28 : decode c_Mo_real 28 = .ok (.lload_n 2, 1) := by decide +kernel
theorem d_Mo_real_29 : decode c_Mo_real 29 = .ok (.bipush 52, 2) := by decide +kernel
theorem d_Mo_real_31 : decode c_Mo_real 31 = .ok (.lushr, 1) := by decide +kernel
theorem d_Mo_real_32 : decode c_Mo_real 32 = .ok (.l2i, 1) := by decide +kernel
theorem d_Mo_real_33 : decode c_Mo_real 33 = .ok (.sipush 2047, 3) := by decide +kernel
theorem d_Mo_real_36 : decode c_Mo_real 36 = .ok (.iand, 1) := by decide +kernel
theorem d_Mo_real_37 : decode c_Mo_real 37 = .ok (.istore 6, 2) := by decide +kernel
theorem d_Mo_real_39 : decode c_Mo_real 39 = .ok (.lload_n 2, 1) := by decide +kernel
theorem d_Mo_real_40 : decode c_Mo_real 40 = .ok (.ldc2_w 210, 3) := by decide +kernel
theorem d_Mo_real_43 : decode c_Mo_real 43 = .ok (.land, 1) := by decide +kernel
theorem d_Mo_real_44 : decode c_Mo_real 44 = .ok (.lstore 7, 2) := by decide +kernel
theorem d_Mo_real_46 : decode c_Mo_real 46 = .ok (.aload_n 0, 1) := by decide +kernel
theorem d_Mo_real_47 : decode c_Mo_real 47 = .ok (.lload_n 2, 1) := by decide +kernel
theorem d_Mo_real_48 : decode c_Mo_real 48 = .ok (.lconst 0, 1) := by decide +kernel
theorem d_Mo_real_49 : decode c_Mo_real 49 = .ok (.lcmp, 1) := by decide +kernel
theorem d_Mo_real_50 : decode c_Mo_real 50 = .ok (.ifCond .ge 7, 3) := by decide +kernel
theorem d_Mo_real_53 : decode c_Mo_real 53 = .ok (.iconst 1, 1) := by decide +kernel
theorem d_Mo_real_54 : decode c_Mo_real 54 = .ok (.goto 4, 3) := by decide +kernel
theorem d_Mo_real_57 : decode c_Mo_real 57 = .ok (.iconst 0, 1) := by decide +kernel
theorem d_Mo_real_58 : decode c_Mo_real 58 = .ok (.invokevirtual 181, 3) := by decide +kernel
theorem d_Mo_real_61 : decode c_Mo_real 61 = .ok (.iload 6, 2) := by decide +kernel
theorem d_Mo_real_63 : decode c_Mo_real 63 = .ok (.sipush 2047, 3) := by decide +kernel
theorem d_Mo_real_66 : decode c_Mo_real 66 = .ok (.if_icmp .ne 66, 3) := by decide +kernel
theorem d_Mo_real_69 : decode c_Mo_real 69 = .ok (.lload 7, 2) := by decide +kernel
theorem d_Mo_real_71 : decode c_Mo_real 71 = .ok (.lconst 0, 1) := by decide +kernel
theorem d_Mo_real_72 : decode c_Mo_real 72 = .ok (.lcmp, 1) := by decide +kernel
theorem d_Mo_real_73 : decode c_Mo_real 73 = .ok (.ifCond .ne 18, 3) := by decide +kernel
theorem d_Mo_real_76 : decode c_Mo_real 76 = .ok (.iload 4, 2) := by decide +kernel
theorem d_Mo_real_78 : decode c_Mo_real 78 = .ok (.ifCond .eq 8, 3) := by decide +kernel
theorem d_Mo_real_81 : decode c_Mo_real 81 = .ok (.ldc 218, 2) := by decide +kernel
theorem d_Mo_real_83 : decode c_Mo_real 83 = .ok (.goto 20, 3) := by decide +kernel
theorem d_Mo_real_86 : decode c_Mo_real 86 = .ok (.ldc 220, 2) := by decide +kernel
theorem d_Mo_real_88 : decode c_Mo_real 88 = .ok (.goto 15, 3) := by decide +kernel
theorem d_Mo_real_91 : decode c_Mo_real 91 = .ok (.iload 4, 2) := by decide +kernel
theorem d_Mo_real_93 : decode c_Mo_real 93 = .ok (.ifCond .eq 8, 3) := by decide +kernel
theorem d_Mo_real_96 : decode c_Mo_real 96 = .ok (.ldc 222, 2) := by decide +kernel
theorem d_Mo_real_98 : decode c_Mo_real 98 = .ok (.goto 5, 3) := by decide +kernel
theorem d_Mo_real_101 : decode c_Mo_real 101 = .ok (.ldc 224, 2) := by decide +kernel
theorem d_Mo_real_103 : decode c_Mo_real 103 = .ok (.astore 9, 2) := by decide +kernel
theorem d_Mo_real_105 : decode c_Mo_real 105 = .ok (.iconst 0, 1) := by decide +kernel
theorem d_Mo_real_106 : decode c_Mo_real 106 = .ok (.istore 10, 2) := by decide +kernel
theorem d_Mo_real_108 : decode c_Mo_real 108 = .ok (.iload 10, 2) := by decide +kernel
theorem d_Mo_real_110 : decode c_Mo_real 110 = .ok (.iconst 3, 1) := by decide +kernel
theorem d_Mo_real_111 : decode c_Mo_real 111 = .ok (.if_icmp .ge 20, 3) := by decide +kernel
theorem d_Mo_real_114 : decode c_Mo_real 114 = .ok (.aload_n 0, 1) := by decide +kernel
theorem d_Mo_real_115 : decode c_Mo_real 115 = .ok (.aload 9, 2) := by decide +kernel
theorem d_Mo_real_117 : decode c_Mo_real 117 = .ok (.iload 10, 2) := by decide +kernel
theorem d_Mo_real_119 : decode c_Mo_real 119 = .ok (.invokevirtual 108, 3) := by decide +kernel
theorem d_Mo_real_122 : decode c_Mo_real 122 = .ok (.invokevirtual 162, 3) := by decide +kernel
theorem d_Mo_real_125 : decode c_Mo_real 125 = .ok (.iinc 10 1, 3) := by decide +kernel
theorem d_Mo_real_128 : decode c_Mo_real 128 = .ok (.goto (-20), 3) := by decide +kernel
theorem d_Mo_real_131 : decode c_Mo_real 131 = .ok (.return_, 1) := by decide +kernel
theorem d_Mo_real_132 : decode c_Mo_real 132 = .ok (.aload_n 0, 1) := by decide +kernel
theorem d_Mo_real_133 : decode c_Mo_real 133 = .ok (.aload_n 0, 1) := by decide +kernel
theorem d_Mo_real_134 : decode c_Mo_real 134 = .ok (.getfield 82, 3) := by decide +kernel
theorem d_Mo_real_137 : decode c_Mo_real 137 = .ok (.ifCond .eq 14, 3) := by decide +kernel
theorem d_Mo_real_140 : decode c_Mo_real 140 = .ok (.aload_n 0, 1) := by decide +kernel
theorem d_Mo_real_141 : decode c_Mo_real 141 = .ok (.getfield 69, 3) := by decide +kernel
theorem d_Mo_real_144 : decode c_Mo_real 144 = .ok (.ifCond .ne 7, 3) := by decide +kernel
theorem d_Mo_real_147 : decode c_Mo_real 147 = .ok (.iconst 1, 1) := by decide +kernel
theorem d_Mo_real_148 : decode c_Mo_real 148 = .ok (.goto 4, 3) := by decide +kernel
theorem d_Mo_real_151 : decode c_Mo_real 151 = .ok (.iconst 0, 1) := by decide +kernel
theorem d_Mo_real_152 : decode c_Mo_real 152 = .ok (.putfield 159, 3) := by decide +kernel
theorem d_Mo_real_155 : decode c_Mo_real 155 = .ok (.iload 5, 2) := by decide +kernel
theorem d_Mo_real_157 : decode c_Mo_real 157 = .ok (.bipush 97, 2) := by decide +kernel
theorem d_Mo_real_159 : decode c_Mo_real 159 = .ok (.if_icmp .ne 15, 3) := by decide +kernel
theorem d_Mo_real_162 : decode c_Mo_real 162 = .ok (.aload_n 0, 1) := by decide +kernel
theorem d_Mo_real_163 : decode c_Mo_real 163 = .ok (.lload_n 2, 1) := by decide +kernel
theorem d_Mo_real_164 : decode c_Mo_real 164 = .ok (.aload_n 0, 1) := by decide +kernel
theorem d_Mo_real_165 : decode c_Mo_real 165 = .ok (.getfield 94, 3) := by decide +kernel
theorem d_Mo_real_168 : decode c_Mo_real 168 = .ok (.iload 4, 2) := by decide +kernel
theorem d_Mo_real_170 : decode c_Mo_real 170 = .ok (.invokevirtual 226, 3) := by decide +kernel
theorem d_Mo_real_173 : decode c_Mo_real 173 = .ok (.return_, 1) := by decide +kernel
theorem d_Mo_real_174 : decode c_Mo_real 174 = .ok (.aload_n 0, 1) := by decide +kernel
theorem d_Mo_real_175 : decode c_Mo_real 175 = .ok (.iload 6, 2) := by decide +kernel
theorem d_Mo_real_177 : decode c_Mo_real 177 = .ok (.ifCond .ne 8, 3) := by decide +kernel
theorem d_Mo_real_180 : decode c_Mo_real 180 = .ok (.lload 7, 2) := by decide +kernel
theorem d_Mo_real_182 : decode c_Mo_real 182 = .ok (.goto 9, 3) := by decide +kernel
theorem d_Mo_real_185 : decode c_Mo_real 185 = .ok (.lload 7, 2) := by decide +kernel
theorem d_Mo_real_187 : decode c_Mo_real 187 = .ok (.ldc2_w 212, 3) := by decide +kernel
theorem d_Mo_real_190 : decode c_Mo_real 190 = .ok (.lor, 1) := by decide +kernel
theorem d_Mo_real_191 : decode c_Mo_real 191 = .ok (.iload 6, 2) := by decide +kernel
theorem d_Mo_real_193 : decode c_Mo_real 193 = .ok (.ifCond .ne 9, 3) := by decide +kernel
theorem d_Mo_real_196 : decode c_Mo_real 196 = .ok (.sipush (-1074), 3) := by decide +kernel
theorem d_Mo_real_199 : decode c_Mo_real 199 = .ok (.goto 9, 3) := by decide +kernel
theorem d_Mo_real_202 : decode c_Mo_real 202 = .ok (.iload 6, 2) := by decide +kernel
theorem d_Mo_real_204 : decode c_Mo_real 204 = .ok (.sipush 1075, 3) := by decide +kernel
theorem d_Mo_real_207 : decode c_Mo_real 207 = .ok (.isub, 1) := by decide +kernel
theorem d_Mo_real_208 : decode c_Mo_real 208 = .ok (.invokevirtual 230, 3) := by decide +kernel
theorem d_Mo_real_211 : decode c_Mo_real 211 = .ok (.aload_n 0, 1) := by decide +kernel
theorem d_Mo_real_212 : decode c_Mo_real 212 = .ok (.getfield 94, 3) := by decide +kernel
theorem d_Mo_real_215 : decode c_Mo_real 215 = .ok (.ifCond .ge 8, 3) := by decide +kernel
