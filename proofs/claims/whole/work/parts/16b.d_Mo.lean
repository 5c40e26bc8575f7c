theorem d_Mo_give_23 : decode c_Mo_give 23 = .ok (.iadd, 1) := by decide +kernel
theorem d_Mo_give_24 : decode c_Mo_give 24 = .ok (.putfield 119, 3) := by decide +kernel
theorem d_Mo_give_27 : decode c_Mo_give 27 = .ok (.iload_n 1, 1) := by decide +kernel
theorem d_Mo_give_28 : decode c_Mo_give 28 = .ok (.iastore, 1) := by decide +kernel
theorem d_Mo_give_29 : decode c_Mo_give 29 = .ok (.iconst 1, 1) := by decide +kernel
theorem d_Mo_give_30 : decode c_Mo_give 30 = .ok (.ireturn, 1) := by decide +kernel
theorem d_Mo_pad_0 : decode c_Mo_pad 0 = .ok (.aload_n 0, 1) := by decide +kernel
theorem d_Mo_pad_1 : decode c_Mo_pad 1 = .ok (.getfield 91, 3) := by decide +kernel
theorem d_Mo_pad_4 : decode c_Mo_pad 4 = .ok (.aload_n 0, 1) := by decide +kernel
theorem d_Mo_pad_5 : decode c_Mo_pad 5 = .ok (.getfield 153, 3) := by decide +kernel
theorem d_Mo_pad_8 : decode c_Mo_pad 8 = .ok (.isub, 1) := by decide +kernel
theorem d_Mo_pad_9 : decode c_Mo_pad 9 = .ok (.aload_n 0, 1) := by decide +kernel
theorem d_Mo_pad_10 : decode c_Mo_pad 10 = .ok (.getfield 156, 3) := by decide +kernel
theorem d_Mo_pad_13 : decode c_Mo_pad 13 = .ok (.isub, 1) := by decide +kernel
theorem d_Mo_pad_14 : decode c_Mo_pad 14 = .ok (.istore_n 1, 1) := by decide +kernel
theorem d_Mo_pad_15 : decode c_Mo_pad 15 = .ok (.aload_n 0, 1) := by decide +kernel
theorem d_Mo_pad_16 : decode c_Mo_pad 16 = .ok (.getfield 69, 3) := by decide +kernel
theorem d_Mo_pad_19 : decode c_Mo_pad 19 = .ok (.ifCond .ne 34, 3) := by decide +kernel
theorem d_Mo_pad_22 : decode c_Mo_pad 22 = .ok (.aload_n 0, 1) := by decide +kernel
theorem d_Mo_pad_23 : decode c_Mo_pad 23 = .ok (.getfield 159, 3) := by decide +kernel
theorem d_Mo_pad_26 : decode c_Mo_pad 26 = .ok (.ifCond .ne 27, 3) := by decide +kernel
theorem d_Mo_pad_29 : decode c_Mo_pad 29 = .ok (.iconst 0, 1) := by decide +kernel
theorem d_Mo_pad_30 : decode c_Mo_pad 30 = .ok (.istore_n 2, 1) := by decide +kernel
theorem d_Mo_pad_31 : decode c_Mo_pad 31 = .ok (.iload_n 2, 1) := by decide +kernel
theorem d_Mo_pad_32 : decode c_Mo_pad 32 = .ok (.iload_n 1, 1) := by decide +kernel
theorem d_Mo_pad_33 : decode c_Mo_pad 33 = .ok (.if_icmp .ge 20, 3) := by decide +kernel
theorem d_Mo_pad_36 : decode c_Mo_pad 36 = .ok (.aload_n 0, 1) := by decide +kernel
theorem d_Mo_pad_37 : decode c_Mo_pad 37 = .ok (.bipush 32, 2) := by decide +kernel
theorem d_Mo_pad_39 : decode c_Mo_pad 39 = .ok (.invokevirtual 129, 3) := by decide +kernel
theorem d_Mo_pad_42 : decode c_Mo_pad 42 = .ok (.ifCond .ne 5, 3) := by decide +kernel
theorem d_Mo_pad_45 : decode c_Mo_pad 45 = .ok (.iconst 0, 1) := by decide +kernel
theorem d_Mo_pad_46 : decode c_Mo_pad 46 = .ok (.ireturn, 1) := by decide +kernel
theorem d_Mo_pad_47 : decode c_Mo_pad 47 = .ok (.iinc 2 1, 3) := by decide +kernel
theorem d_Mo_pad_50 : decode c_Mo_pad 50 = .ok (.goto (-19), 3) := by decide +kernel
theorem d_Mo_pad_53 : decode c_Mo_pad 53 = .ok (.iconst 0, 1) := by decide +kernel
theorem d_Mo_pad_54 : decode c_Mo_pad 54 = .ok (.istore_n 2, 1) := by decide +kernel
theorem d_Mo_pad_55 : decode c_Mo_pad 55 = .ok (.iload_n 2, 1) := by decide +kernel
theorem d_Mo_pad_56 : decode c_Mo_pad 56 = .ok (.aload_n 0, 1) := by decide +kernel
theorem d_Mo_pad_57 : decode c_Mo_pad 57 = .ok (.getfield 153, 3) := by decide +kernel
theorem d_Mo_pad_60 : decode c_Mo_pad 60 = .ok (.if_icmp .ge 24, 3) := by decide +kernel
theorem d_Mo_pad_63 : decode c_Mo_pad 63 = .ok (.aload_n 0, 1) := by decide +kernel
theorem d_Mo_pad_64 : decode c_Mo_pad 64 = .ok (.aload_n 0, 1) := by decide +kernel
theorem d_Mo_pad_65 : decode c_Mo_pad 65 = .ok (.getfield 24, 3) := by decide +kernel
theorem d_Mo_pad_68 : decode c_Mo_pad 68 = .ok (.iload_n 2, 1) := by decide +kernel
theorem d_Mo_pad_69 : decode c_Mo_pad 69 = .ok (.iaload, 1) := by decide +kernel
theorem d_Mo_pad_70 : decode c_Mo_pad 70 = .ok (.invokevirtual 129, 3) := by decide +kernel
theorem d_Mo_pad_73 : decode c_Mo_pad 73 = .ok (.ifCond .ne 5, 3) := by decide +kernel
theorem d_Mo_pad_76 : decode c_Mo_pad 76 = .ok (.iconst 0, 1) := by decide +kernel
theorem d_Mo_pad_77 : decode c_Mo_pad 77 = .ok (.ireturn, 1) := by decide +kernel
theorem d_Mo_pad_78 : decode c_Mo_pad 78 = .ok (.iinc 2 1, 3) := by decide +kernel
theorem d_Mo_pad_81 : decode c_Mo_pad 81 = .ok (.goto (-26), 3) := by decide +kernel
theorem d_Mo_pad_84 : decode c_Mo_pad 84 = .ok (.aload_n 0, 1) := by decide +kernel
theorem d_Mo_pad_85 : decode c_Mo_pad 85 = .ok (.getfield 69, 3) := by decide +kernel
theorem d_Mo_pad_88 : decode c_Mo_pad 88 = .ok (.ifCond .ne 34, 3) := by decide +kernel
theorem d_Mo_pad_91 : decode c_Mo_pad 91 = .ok (.aload_n 0, 1) := by decide +kernel
theorem d_Mo_pad_92 : decode c_Mo_pad 92 = .ok (.getfield 159, 3) := by decide +kernel
theorem d_Mo_pad_95 : decode c_Mo_pad 95 = .ok (.ifCond .eq 27, 3) := by decide +kernel
theorem d_Mo_pad_98 : decode c_Mo_pad 98 = .ok (.iconst 0, 1) := by decide +kernel
theorem d_Mo_pad_99 : decode c_Mo_pad 99 = .ok (.istore_n 2, 1) := by decide +kernel
theorem d_Mo_pad_100 : decode c_Mo_pad 100 = .ok (.iload_n 2, 1) := by decide +kernel
theorem d_Mo_pad_101 : decode c_Mo_pad 101 = .ok (.iload_n 1, 1) := by decide +kernel
theorem d_Mo_pad_102 : decode c_Mo_pad 102 = .ok (.if_icmp .ge 20, 3) := by decide +kernel
theorem d_Mo_pad_105 : decode c_Mo_pad 105 = .ok (.aload_n 0, 1) := by decide +kernel
theorem d_Mo_pad_106 : decode c_Mo_pad 106 = .ok (.bipush 48, 2) := by decide +kernel
theorem d_Mo_pad_108 : decode c_Mo_pad 108 = .ok (.invokevirtual 129, 3) := by decide +kernel
theorem d_Mo_pad_111 : decode c_Mo_pad 111 = .ok (.ifCond .ne 5, 3) := by decide +kernel
theorem d_Mo_pad_114 : decode c_Mo_pad 114 = .ok (.iconst 0, 1) := by decide +kernel
theorem d_Mo_pad_115 : decode c_Mo_pad 115 = .ok (.ireturn, 1) := by decide +kernel
theorem d_Mo_pad_116 : decode c_Mo_pad 116 = .ok (.iinc 2 1, 3) := by decide +kernel
theorem d_Mo_pad_119 : decode c_Mo_pad 119 = .ok (.goto (-19), 3) := by decide +kernel
theorem d_Mo_pad_122 : decode c_Mo_pad 122 = .ok (.iconst 0, 1) := by decide +kernel
theorem d_Mo_pad_123 : decode c_Mo_pad 123 = .ok (.istore_n 2, 1) := by decide +kernel
theorem d_Mo_pad_124 : decode c_Mo_pad 124 = .ok (.iload_n 2, 1) := by decide +kernel
theorem d_Mo_pad_125 : decode c_Mo_pad 125 = .ok (.aload_n 0, 1) := by decide +kernel
theorem d_Mo_pad_126 : decode c_Mo_pad 126 = .ok (.getfield 156, 3) := by decide +kernel
theorem d_Mo_pad_129 : decode c_Mo_pad 129 = .ok (.if_icmp .ge 24, 3) := by decide +kernel
theorem d_Mo_pad_132 : decode c_Mo_pad 132 = .ok (.aload_n 0, 1) := by decide +kernel
theorem d_Mo_pad_133 : decode c_Mo_pad 133 = .ok (.aload_n 0, 1) := by decide +kernel
theorem d_Mo_pad_134 : decode c_Mo_pad 134 = .ok (.getfield 27, 3) := by decide +kernel
theorem d_Mo_pad_137 : decode c_Mo_pad 137 = .ok (.iload_n 2, 1) := by decide +kernel
theorem d_Mo_pad_138 : decode c_Mo_pad 138 = .ok (.iaload, 1) := by decide +kernel
theorem d_Mo_pad_139 : decode c_Mo_pad 139 = .ok (.invokevirtual 129, 3) := by decide +kernel
theorem d_Mo_pad_142 : decode c_Mo_pad 142 = .ok (.ifCond .ne 5, 3) := by decide +kernel
theorem d_Mo_pad_145 : decode c_Mo_pad 145 = .ok (.iconst 0, 1) := by decide +kernel
theorem d_Mo_pad_146 : decode c_Mo_pad 146 = .ok (.ireturn, 1) := by decide +kernel
theorem d_Mo_pad_147 : decode c_Mo_pad 147 = .ok (.iinc 2 1, 3) := by decide +kernel
theorem d_Mo_pad_150 : decode c_Mo_pad 150 = .ok (.goto (-26), 3) := by decide +kernel
theorem d_Mo_pad_153 : decode c_Mo_pad 153 = .ok (.aload_n 0, 1) := by decide +kernel
theorem d_Mo_pad_154 : decode c_Mo_pad 154 = .ok (.getfield 69, 3) := by decide +kernel
theorem d_Mo_pad_157 : decode c_Mo_pad 157 = .ok (.ifCond .eq 27, 3) := by decide +kernel
theorem d_Mo_pad_160 : decode c_Mo_pad 160 = .ok (.iconst 0, 1) := by decide +kernel
theorem d_Mo_pad_161 : decode c_Mo_pad 161 = .ok (.istore_n 2, 1) := by decide +kernel
theorem d_Mo_pad_162 : decode c_Mo_pad 162 = .ok (.iload_n 2, 1) := by decide +kernel
theorem d_Mo_pad_163 : decode c_Mo_pad 163 = .ok (.iload_n 1, 1) := by decide +kernel
theorem d_Mo_pad_164 : decode c_Mo_pad 164 = .ok (.if_icmp .ge 20, 3) := by decide +kernel
theorem d_Mo_pad_167 : decode c_Mo_pad 167 = .ok (.aload_n 0, 1) := by decide +kernel
theorem d_Mo_pad_168 : decode c_Mo_pad 168 = .ok (.bipush 32, 2) := by decide +kernel
theorem d_Mo_pad_170 : decode c_Mo_pad 170 = .ok (.invokevirtual 129, 3) := by decide +kernel
theorem d_Mo_pad_173 : decode c_Mo_pad 173 = .ok (.ifCond .ne 5, 3) := by decide +kernel
theorem d_Mo_pad_176 : decode c_Mo_pad 176 = .ok (.iconst 0, 1) := by decide +kernel
theorem d_Mo_pad_177 : decode c_Mo_pad 177 = .ok (.ireturn, 1) := by decide +kernel
theorem d_Mo_pad_178 : decode c_Mo_pad 178 = .ok (.iinc 2 1, 3) := by decide +kernel
theorem d_Mo_pad_181 : decode c_Mo_pad 181 = .ok (.goto (-19), 3) := by decide +kernel
theorem d_Mo_pad_184 : decode c_Mo_pad 184 = .ok (.iconst 1, 1) := by decide +kernel
theorem d_Mo_pad_185 : decode c_Mo_pad 185 = .ok (.ireturn, 1) := by decide +kernel
theorem d_Mo_add_0 : decode c_Mo_add 0 = .ok (.aload_n 0, 1) := by decide +kernel
theorem d_Mo_add_1 : decode c_Mo_add 1 = .ok (.getfield 27, 3) := by decide +kernel
theorem d_Mo_add_4 : decode c_Mo_add 4 = .ok (.aload_n 0, 1) := by decide +kernel
theorem d_Mo_add_5 : decode c_Mo_add 5 = .ok (.dup, 1) := by decide +kernel
theorem d_Mo_add_6 : decode c_Mo_add 6 = .ok (.getfield 156, 3) := by decide +kernel
theorem d_Mo_add_9 : decode c_Mo_add 9 = .ok (.dup_x1, 1) := by decide +kernel
theorem d_Mo_add_10 : decode c_Mo_add 10 = .ok (.iconst 1, 1) := by decide +kernel
theorem d_Mo_add_11 : decode c_Mo_add 11 = .ok (.iadd, 1) := by decide +kernel
theorem d_Mo_add_12 : decode c_Mo_add 12 = .ok (.putfield 156, 3) := by decide +kernel
theorem d_Mo_add_15 : decode c_Mo_add 15 = .ok (.iload_n 1, 1) := by decide +kernel
theorem d_Mo_add_16 : decode c_Mo_add 16 = .ok (.iastore, 1) := by decide +kernel
theorem d_Mo_add_17 : decode c_Mo_add 17 = .ok (.return_, 1) := by decide +kernel
theorem d_Mo_piece_0 : decode c_Mo_piece 0 = .ok (.aload_n 0, 1) := by decide +kernel
theorem d_Mo_piece_1 : decode c_Mo_piece 1 = .ok (.iconst 0, 1) := by decide +kernel
theorem d_Mo_piece_2 : decode c_Mo_piece 2 = .ok (.putfield 153, 3) := by decide +kernel
theorem d_Mo_piece_5 : decode c_Mo_piece 5 = .ok (.aload_n 0, 1) := by decide +kernel
theorem d_Mo_piece_6 : decode c_Mo_piece 6 = .ok (.iconst 0, 1) := by decide +kernel
theorem d_Mo_piece_7 : decode c_Mo_piece 7 = .ok (.putfield 156, 3) := by decide +kernel
theorem d_Mo_piece_10 : decode c_Mo_piece 10 = .ok (.aload_n 0, 1) := by decide +kernel
theorem d_Mo_piece_11 : decode c_Mo_piece 11 = .ok (.iconst 0, 1) := by decide +kernel
theorem d_Mo_piece_12 : decode c_Mo_piece 12 = .ok (.putfield 159, 3) := by decide +kernel
theorem d_Mo_piece_15 : decode c_Mo_piece 15 = .ok (.iload_n 1, 1) := by decide +kernel
theorem d_Mo_piece_16 : decode c_Mo_piece 16 = .ok (.bipush 37, 2) := by decide +kernel
theorem d_Mo_piece_18 : decode c_Mo_piece 18 = .ok (.if_icmp .ne 10, 3) := by decide +kernel
theorem d_Mo_piece_21 : decode c_Mo_piece 21 = .ok (.aload_n 0, 1) := by decide +kernel
theorem d_Mo_piece_22 : decode c_Mo_piece 22 = .ok (.bipush 37, 2) := by decide +kernel
theorem d_Mo_piece_24 : decode c_Mo_piece 24 = .ok (.invokevirtual 162, 3) := by decide +kernel
theorem d_Mo_piece_27 : decode c_Mo_piece 27 = .ok (.return_, 1) := by decide +kernel
theorem d_Mo_piece_28 : decode c_Mo_piece 28 = .ok (.aload_n 0, 1) := by decide +kernel
theorem d_Mo_piece_29 : decode c_Mo_piece 29 = .ok (.invokevirtual 132, 3) := by decide +kernel
theorem d_Mo_piece_32 : decode c_Mo_piece 32 = .ok (.lstore_n 2, 1) := by decide +kernel
theorem d_Mo_piece_33 : decode c_Mo_piece 33 = .ok (.iload_n 1, 1) := by decide +kernel
theorem d_Mo_piece_34 : decode c_Mo_piece 34 = .ok (.bipush 99, 2) := by decide +kernel
theorem d_Mo_piece_36 : decode c_Mo_piece 36 = .ok (.if_icmp .ne 36, 3) := by decide +kernel
theorem d_Mo_piece_39 : decode c_Mo_piece 39 = .ok (.lload_n 2, 1) := by decide +kernel
theorem d_Mo_piece_40 : decode c_Mo_piece 40 = .ok (.l2i, 1) := by decide +kernel
theorem d_Mo_piece_41 : decode c_Mo_piece 41 = .ok (.bipush 127, 2) := by decide +kernel
theorem d_Mo_piece_43 : decode c_Mo_piece 43 = .ok (.iand, 1) := by decide +kernel
theorem d_Mo_piece_44 : decode c_Mo_piece 44 = .ok (.istore 4, 2) := by decide +kernel
theorem d_Mo_piece_46 : decode c_Mo_piece 46 = .ok (.aload_n 0, 1) := by decide +kernel
theorem d_Mo_piece_47 : decode c_Mo_piece 47 = .ok (.iload 4, 2) := by decide +kernel
theorem d_Mo_piece_49 : decode c_Mo_piece 49 = .ok (.bipush 32, 2) := by decide +kernel
theorem d_Mo_piece_51 : decode c_Mo_piece 51 = .ok (.bipush 126, 2) := by decide +kernel
theorem d_Mo_piece_53 : decode c_Mo_piece 53 = .ok (.invokestatic 61, 3) := by decide +kernel
theorem d_Mo_piece_56 : decode c_Mo_piece 56 = .ok (.ifCond .eq 8, 3) := by decide +kernel
theorem d_Mo_piece_59 : decode c_Mo_piece 59 = .ok (.iload 4, 2) := by decide +kernel
theorem d_Mo_piece_61 : decode c_Mo_piece 61 = .ok (.goto 5, 3) := by decide +kernel
theorem d_Mo_piece_64 : decode c_Mo_piece 64 = .ok (.bipush 63, 2) := by decide +kernel
theorem d_Mo_piece_66 : decode c_Mo_piece 66 = .ok (.invokevirtual 162, 3) := by decide +kernel
theorem d_Mo_piece_69 : decode c_Mo_piece 69 = .ok (.goto 54, 3) := by decide +kernel
theorem d_Mo_piece_72 : decode c_Mo_piece 72 = .ok (.iload_n 1, 1) := by decide +kernel
theorem d_Mo_piece_73 : decode c_Mo_piece 73 = .ok (.bipush 100, 2) := by decide +kernel
theorem d_Mo_piece_75 : decode c_Mo_piece 75 = .ok (.if_icmp .eq 33, 3) := by decide +kernel
theorem d_Mo_piece_78 : decode c_Mo_piece 78 = .ok (.iload_n 1, 1) := by decide +kernel
theorem d_Mo_piece_79 : decode c_Mo_piece 79 = .ok (.bipush 105, 2) := by decide +kernel
theorem d_Mo_piece_81 : decode c_Mo_piece 81 = .ok (.if_icmp .eq 27, 3) := by decide +kernel
theorem d_Mo_piece_84 : decode c_Mo_piece 84 = .ok (.iload_n 1, 1) := by decide +kernel
theorem d_Mo_piece_85 : decode c_Mo_piece 85 = .ok (.bipush 117, 2) := by decide +kernel
theorem d_Mo_piece_87 : decode c_Mo_piece 87 = .ok (.if_icmp .eq 21, 3) := by decide +kernel
theorem d_Mo_piece_90 : decode c_Mo_piece 90 = .ok (.iload_n 1, 1) := by decide +kernel
theorem d_Mo_piece_91 : decode c_Mo_piece 91 = .ok (.bipush 111, 2) := by decide +kernel
theorem d_Mo_piece_93 : decode c_Mo_piece 93 = .ok (.if_icmp .eq 15, 3) := by decide +kernel
theorem d_Mo_piece_96 : decode c_Mo_piece 96 = .ok (.iload_n 1, 1) := by decide +kernel
theorem d_Mo_piece_97 : decode c_Mo_piece 97 = .ok (.bipush 120, 2) := by decide +kernel
theorem d_Mo_piece_99 : decode c_Mo_piece 99 = .ok (.if_icmp .eq 9, 3) := by decide +kernel
theorem d_Mo_piece_102 : decode c_Mo_piece 102 = .ok (.iload_n 1, 1) := by decide +kernel
theorem d_Mo_piece_103 : decode c_Mo_piece 103 = .ok (.bipush 88, 2) := by decide +kernel
theorem d_Mo_piece_105 : decode c_Mo_piece 105 = .ok (.if_icmp .ne 12, 3) := by decide +kernel
theorem d_Mo_piece_108 : decode c_Mo_piece 108 = .ok (.aload_n 0, 1) := by decide +kernel
theorem d_Mo_piece_109 : decode c_Mo_piece 109 = .ok (.iload_n 1, 1) := by decide +kernel
theorem d_Mo_piece_110 : decode c_Mo_piece 110 = .ok (.lload_n 2, 1) := by decide +kernel
theorem d_Mo_piece_111 : decode c_Mo_piece 111 = .ok (.invokevirtual 165, 3) := by decide +kernel
theorem d_Mo_piece_114 : decode c_Mo_piece 114 = .ok (.goto 9, 3) := by decide +kernel
theorem d_Mo_piece_117 : decode c_Mo_piece 117 = .ok (.aload_n 0, 1) := by decide +kernel
theorem d_Mo_piece_118 : decode c_Mo_piece 118 = .ok (.iload_n 1, 1) := by decide +kernel
theorem d_Mo_piece_119 : decode c_Mo_piece 119 = .ok (.lload_n 2, 1) := by decide +kernel
theorem d_Mo_piece_120 : decode c_Mo_piece 120 = .ok (.invokevirtual 169, 3) := by decide +kernel
theorem d_Mo_piece_123 : decode c_Mo_piece 123 = .ok (.return_, 1) := by decide +kernel
theorem d_Mo_sign_0 : decode c_Mo_sign 0 = .ok (.iload_n 1, 1) := by decide +kernel
theorem d_Mo_sign_1 : decode c_Mo_sign 1 = .ok (.ifCond .eq 24, 3) := by decide +kernel
theorem d_Mo_sign_4 : decode c_Mo_sign 4 = .ok (.aload_n 0, 1) := by decide +kernel
theorem d_Mo_sign_5 : decode c_Mo_sign 5 = .ok (.getfield 24, 3) := by decide +kernel
theorem d_Mo_sign_8 : decode c_Mo_sign 8 = .ok (.aload_n 0, 1) := by decide +kernel
theorem d_Mo_sign_9 : decode c_Mo_sign 9 = .ok (.dup, 1) := by decide +kernel
theorem d_Mo_sign_10 : decode c_Mo_sign 10 = .ok (.getfield 153, 3) := by decide +kernel
theorem d_Mo_sign_13 : decode c_Mo_sign 13 = .ok (.dup_x1, 1) := by decide +kernel
theorem d_Mo_sign_14 : decode c_Mo_sign 14 = .ok (.iconst 1, 1) := by decide +kernel
theorem d_Mo_sign_15 : decode c_Mo_sign 15 = .ok (.iadd, 1) := by decide +kernel
theorem d_Mo_sign_16 : decode c_Mo_sign 16 = .ok (.putfield 153, 3) := by decide +kernel
theorem d_Mo_sign_19 : decode c_Mo_sign 19 = .ok (.bipush 45, 2) := by decide +kernel
theorem d_Mo_sign_21 : decode c_Mo_sign 21 = .ok (.iastore, 1) := by decide +kernel
theorem d_Mo_sign_22 : decode c_Mo_sign 22 = .ok (.goto 56, 3) := by decide +kernel
theorem d_Mo_sign_25 : decode c_Mo_sign 25 = .ok (.aload_n 0, 1) := by decide +kernel
theorem d_Mo_sign_26 : decode c_Mo_sign 26 = .ok (.getfield 73, 3) := by decide +kernel
theorem d_Mo_sign_29 : decode c_Mo_sign 29 = .ok (.ifCond .eq 24, 3) := by decide +kernel
theorem d_Mo_sign_32 : decode c_Mo_sign 32 = .ok (.aload_n 0, 1) := by decide +kernel
theorem d_Mo_sign_33 : decode c_Mo_sign 33 = .ok (.getfield 24, 3) := by decide +kernel
theorem d_Mo_sign_36 : decode c_Mo_sign 36 = .ok (.aload_n 0, 1) := by decide +kernel
theorem d_Mo_sign_37 : decode c_Mo_sign 37 = .ok (.dup, 1) := by decide +kernel
theorem d_Mo_sign_38 : decode c_Mo_sign 38 = .ok (.getfield 153, 3) := by decide +kernel
theorem d_Mo_sign_41 : decode c_Mo_sign 41 = .ok (.dup_x1, 1) := by decide +kernel
theorem d_Mo_sign_42 : decode c_Mo_sign 42 = .ok (.iconst 1, 1) := by decide +kernel
theorem d_Mo_sign_43 : decode c_Mo_sign 43 = .ok (.iadd, 1) := by decide +kernel
theorem d_Mo_sign_44 : decode c_Mo_sign 44 = .ok (.putfield 153, 3) := by decide +kernel
theorem d_Mo_sign_47 : decode c_Mo_sign 47 = .ok (.bipush 43, 2) := by decide +kernel
theorem d_Mo_sign_49 : decode c_Mo_sign 49 = .ok (.iastore, 1) := by decide +kernel
theorem d_Mo_sign_50 : decode c_Mo_sign 50 = .ok (.goto 28, 3) := by decide +kernel
theorem d_Mo_sign_53 : decode c_Mo_sign 53 = .ok (.aload_n 0, 1) := by decide +kernel
theorem d_Mo_sign_54 : decode c_Mo_sign 54 = .ok (.getfield 76, 3) := by decide +kernel
theorem d_Mo_sign_57 : decode c_Mo_sign 57 = .ok (.ifCond .eq 21, 3) := by decide +kernel
theorem d_Mo_sign_60 : decode c_Mo_sign 60 = .ok (.aload_n 0, 1) := by decide +kernel
theorem d_Mo_sign_61 : decode c_Mo_sign 61 = .ok (.getfield 24, 3) := by decide +kernel
theorem d_Mo_sign_64 : decode c_Mo_sign 64 = .ok (.aload_n 0, 1) := by decide +kernel
theorem d_Mo_sign_65 : decode c_Mo_sign 65 = .ok (.dup, 1) := by decide +kernel
theorem d_Mo_sign_66 : decode c_Mo_sign 66 = .ok (.getfield 153, 3) := by decide +kernel
theorem d_Mo_sign_69 : decode c_Mo_sign 69 = .ok (.dup_x1, 1) := by decide +kernel
theorem d_Mo_sign_70 : decode c_Mo_sign 70 = .ok (.iconst 1, 1) := by decide +kernel
theorem d_Mo_sign_71 : decode c_Mo_sign 71 = .ok (.iadd, 1) := by decide +kernel
theorem d_Mo_sign_72 : decode c_Mo_sign 72 = .ok (.putfield 153, 3) := by decide +kernel
theorem d_Mo_sign_75 : decode c_Mo_sign 75 = .ok (.bipush 32, 2) := by decide +kernel
theorem d_Mo_sign_77 : decode c_Mo_sign 77 = .ok (.iastore, 1) := by decide +kernel
theorem d_Mo_sign_78 : decode c_Mo_sign 78 = .ok (.return_, 1) := by decide +kernel
theorem d_Mo_digit_0 : decode c_Mo_digit 0 = .ok (.iload_n 0, 1) := by decide +kernel
theorem d_Mo_digit_1 : decode c_Mo_digit 1 = .ok (.bipush 10, 2) := by decide +kernel
theorem d_Mo_digit_3 : decode c_Mo_digit 3 = .ok (.if_icmp .ge 10, 3) := by decide +kernel
theorem d_Mo_digit_6 : decode c_Mo_digit 6 = .ok (.bipush 48, 2) := by decide +kernel
theorem d_Mo_digit_8 : decode c_Mo_digit 8 = .ok (.iload_n 0, 1) := by decide +kernel
theorem d_Mo_digit_9 : decode c_Mo_digit 9 = .ok (.iadd, 1) := by decide +kernel
theorem d_Mo_digit_10 : decode c_Mo_digit 10 = .ok (.goto 19, 3) := by decide +kernel
theorem d_Mo_digit_13 : decode c_Mo_digit 13 = .ok (.iload_n 1, 1) := by decide +kernel
theorem d_Mo_digit_14 : decode c_Mo_digit 14 = .ok (.ifCond .eq 8, 3) := by decide +kernel
theorem d_Mo_digit_17 : decode c_Mo_digit 17 = .ok (.bipush 65, 2) := by decide +kernel
theorem d_Mo_digit_19 : decode c_Mo_digit 19 = .ok (.goto 5, 3) := by decide +kernel
theorem d_Mo_digit_22 : decode c_Mo_digit 22 = .ok (.bipush 97, 2) := by decide +kernel
theorem d_Mo_digit_24 : decode c_Mo_digit 24 = .ok (.iload_n 0, 1) := by decide +kernel
theorem d_Mo_digit_25 : decode c_Mo_digit 25 = .ok (.iadd, 1) := by decide +kernel
theorem d_Mo_digit_26 : decode c_Mo_digit 26 = .ok (.bipush 10, 2) := by decide +kernel
theorem d_Mo_digit_28 : decode c_Mo_digit 28 = .ok (.isub, 1) := by decide +kernel
theorem d_Mo_digit_29 : decode c_Mo_digit 29 = .ok (.ireturn, 1) := by decide +kernel
theorem d_Mo_whole_0 : decode c_Mo_whole 0 = .ok (.iload_n 1, 1) := by decide +kernel
theorem d_Mo_whole_1 : decode c_Mo_whole 1 = .ok (.bipush 100, 2) := by decide +kernel
theorem d_Mo_whole_3 : decode c_Mo_whole 3 = .ok (.if_icmp .eq 9, 3) := by decide +kernel
theorem d_Mo_whole_6 : decode c_Mo_whole 6 = .ok (.iload_n 1, 1) := by decide +kernel
theorem d_Mo_whole_7 : decode c_Mo_whole 7 = .ok (.bipush 105, 2) := by decide +kernel
theorem d_Mo_whole_9 : decode c_Mo_whole 9 = .ok (.if_icmp .ne 7, 3) := by decide +kernel
theorem d_Mo_whole_12 : decode c_Mo_whole 12 = .ok (.iconst 1, 1) := by decide +kernel
theorem d_Mo_whole_13 : decode c_Mo_whole 13 = .ok (.goto 4, 3) := by decide +kernel
theorem d_Mo_whole_16 : decode c_Mo_whole 16 = .ok (.iconst 0, 1) := by decide +kernel
theorem d_Mo_whole_17 : decode c_Mo_whole 17 = .ok (.istore 4, 2) := by decide +kernel
theorem d_Mo_whole_19 : decode c_Mo_whole 19 = .ok (.iload 4, 2) := by decide +kernel
theorem d_Mo_whole_21 : decode c_Mo_whole 21 = .ok (.ifCond .eq 13, 3) := by decide +kernel
theorem d_Mo_whole_24 : decode c_Mo_whole 24 = .ok (.lload_n 2, 1) := by decide +kernel
theorem d_Mo_whole_25 : decode c_Mo_whole 25 = .ok (.lconst 0, 1) := by decide +kernel
theorem d_Mo_whole_26 : decode c_Mo_whole 26 = .ok (.lcmp, 1) := by decide +kernel
theorem d_Mo_whole_27 : decode c_Mo_whole 27 = .ok (.ifCond .ge 7, 3) := by decide +kernel
theorem d_Mo_whole_30 : decode c_Mo_whole 30 = .ok (.iconst 1, 1) := by decide +kernel
theorem d_Mo_whole_31 : decode c_Mo_whole 31 = .ok (.goto 4, 3) := by decide +kernel
theorem d_Mo_whole_34 : decode c_Mo_whole 34 = .ok (.iconst 0, 1) := by decide +kernel
theorem d_Mo_whole_35 : decode c_Mo_whole 35 = .ok (.istore 5, 2) := by decide +kernel
theorem d_Mo_whole_37 : decode c_Mo_whole 37 = .ok (.iload_n 1, 1) := by decide +kernel
theorem d_Mo_whole_38 : decode c_Mo_whole 38 = .ok (.bipush 111, 2) := by decide +kernel
theorem d_Mo_whole_40 : decode c_Mo_whole 40 = .ok (.if_icmp .ne 8, 3) := by decide +kernel
theorem d_Mo_whole_43 : decode c_Mo_whole 43 = .ok (.bipush 8, 2) := by decide +kernel
theorem d_Mo_whole_45 : decode c_Mo_whole 45 = .ok (.goto 22, 3) := by decide +kernel
theorem d_Mo_whole_48 : decode c_Mo_whole 48 = .ok (.iload_n 1, 1) := by decide +kernel
theorem d_Mo_whole_49 : decode c_Mo_whole 49 = .ok (.bipush 120, 2) := by decide +kernel
theorem d_Mo_whole_51 : decode c_Mo_whole 51 = .ok (.if_icmp .eq 9, 3) := by decide +kernel
theorem d_Mo_whole_54 : decode c_Mo_whole 54 = .ok (.iload_n 1, 1) := by decide +kernel
theorem d_Mo_whole_55 : decode c_Mo_whole 55 = .ok (.bipush 88, 2) := by decide +kernel
theorem d_Mo_whole_57 : decode c_Mo_whole 57 = .ok (.if_icmp .ne 8, 3) := by decide +kernel
theorem d_Mo_whole_60 : decode c_Mo_whole 60 = .ok (.bipush 16, 2) := by decide +kernel
theorem d_Mo_whole_62 : decode c_Mo_whole 62 = .ok (.goto 5, 3) := by decide +kernel
theorem d_Mo_whole_65 : decode c_Mo_whole 65 = .ok (.bipush 10, 2) := by decide +kernel
theorem d_Mo_whole_67 : decode c_Mo_whole 67 = .ok (.istore 6, 2) := by decide +kernel
theorem d_Mo_whole_69 : decode c_Mo_whole 69 = .ok (.iconst 0, 1) := by decide +kernel
theorem d_Mo_whole_70 : decode c_Mo_whole 70 = .ok (.istore 7, 2) := by decide +kernel
theorem d_Mo_whole_72 : decode c_Mo_whole 72 = .ok (.iload 5, 2) := by decide +kernel
theorem d_Mo_whole_74 : decode c_Mo_whole 74 = .ok (.ifCond .eq 8, 3) := by decide +kernel
theorem d_Mo_whole_77 : decode c_Mo_whole 77 = .ok (.lload_n 2, 1) := by decide +kernel
theorem d_Mo_whole_78 : decode c_Mo_whole 78 = .ok (.lneg, 1) := by decide +kernel
theorem d_Mo_whole_79 : decode c_Mo_whole 79 = .ok (.goto 4, 3) := by decide +kernel
theorem d_Mo_whole_82 : decode c_Mo_whole 82 = .ok (.lload_n 2, 1) := by decide +kernel
theorem d_Mo_whole_83 : decode c_Mo_whole 83 = .ok (.lstore 8, 2) := by decide +kernel
theorem d_Mo_whole_85 : decode c_Mo_whole 85 = .ok (.lload 8, 2) := by decide +kernel
theorem d_Mo_whole_87 : decode c_Mo_whole 87 = .ok (.lconst 0, 1) := by decide +kernel
theorem d_Mo_whole_88 : decode c_Mo_whole 88 = .ok (.lcmp, 1) := by decide +kernel
theorem d_Mo_whole_89 : decode c_Mo_whole 89 = .ok (.ifCond .eq 35, 3) := by decide +kernel
theorem d_Mo_whole_92 : decode c_Mo_whole 92 = .ok (.aload_n 0, 1) := by decide +kernel
theorem d_Mo_whole_93 : decode c_Mo_whole 93 = .ok (.getfield 30, 3) := by decide +kernel
theorem d_Mo_whole_96 : decode c_Mo_whole 96 = .ok (.iload 7, 2) := by decide +kernel
theorem d_Mo_whole_98 : decode c_Mo_whole 98 = .ok (.iinc 7 1, 3) := by decide +kernel
theorem d_Mo_whole_101 : decode c_Mo_whole 101 = .ok (.lload 8, 2) := by decide +kernel
theorem d_Mo_whole_103 : decode c_Mo_whole 103 = .ok (.iload 6, 2) := by decide +kernel
theorem d_Mo_whole_105 : decode c_Mo_whole 105 = .ok (.i2l, 1) := by decide +kernel
theorem d_Mo_whole_106 : decode c_Mo_whole 106 = .ok (.invokestatic 172, 3) := by decide +kernel
theorem d_Mo_whole_109 : decode c_Mo_whole 109 = .ok (.l2i, 1) := by decide +kernel
theorem d_Mo_whole_110 : decode c_Mo_whole 110 = .ok (.iastore, 1) := by decide +kernel
theorem d_Mo_whole_111 : decode c_Mo_whole 111 = .ok (.lload 8, 2) := by decide +kernel
theorem d_Mo_whole_113 : decode c_Mo_whole 113 = .ok (.iload 6, 2) := by decide +kernel
theorem d_Mo_whole_115 : decode c_Mo_whole 115 = .ok (.i2l, 1) := by decide +kernel
theorem d_Mo_whole_116 : decode c_Mo_whole 116 = .ok (.invokestatic 178, 3) := by decide +kernel
theorem d_Mo_whole_119 : decode c_Mo_whole 119 = .ok (.lstore 8, 2) := by decide +kernel
theorem d_Mo_whole_121 : decode c_Mo_whole 121 = .ok (.goto (-36), 3) := by decide +kernel
theorem d_Mo_whole_124 : decode c_Mo_whole 124 = .ok (.aload_n 0, 1) := by decide +kernel
theorem d_Mo_whole_125 : decode c_Mo_whole 125 = .ok (.getfield 94, 3) := by decide +kernel
theorem d_Mo_whole_128 : decode c_Mo_whole 128 = .ok (.ifCond .ge 7, 3) := by decide +kernel
theorem d_Mo_whole_131 : decode c_Mo_whole 131 = .ok (.iconst 1, 1) := by decide +kernel
theorem d_Mo_whole_132 : decode c_Mo_whole 132 = .ok (.goto 7, 3) := by decide +kernel
theorem d_Mo_whole_135 : decode c_Mo_whole 135 = .ok (.aload_n 0, 1) := by decide +kernel
theorem d_Mo_whole_136 : decode c_Mo_whole 136 = .ok (.getfield 94, 3) := by decide +kernel
theorem d_Mo_whole_139 : decode c_Mo_whole 139 = .ok (.istore 10, 2) := by decide +kernel
theorem d_Mo_whole_141 : decode c_Mo_whole 141 = .ok (.iload 4, 2) := by decide +kernel
theorem d_Mo_whole_143 : decode c_Mo_whole 143 = .ok (.ifCond .eq 9, 3) := by decide +kernel
theorem d_Mo_whole_146 : decode c_Mo_whole 146 = .ok (.aload_n 0, 1) := by decide +kernel
theorem d_Mo_whole_147 : decode c_Mo_whole 147 = .ok (.iload 5, 2) := by decide +kernel
theorem d_Mo_whole_149 : decode c_Mo_whole 149 = .ok (.invokevirtual 181, 3) := by decide +kernel
theorem d_Mo_whole_152 : decode c_Mo_whole 152 = .ok (.aload_n 0, 1) := by decide +kernel
theorem d_Mo_whole_153 : decode c_Mo_whole 153 = .ok (.getfield 79, 3) := by decide +kernel
theorem d_Mo_whole_156 : decode c_Mo_whole 156 = .ok (.ifCond .eq 51, 3) := by decide +kernel
theorem d_Mo_whole_159 : decode c_Mo_whole 159 = .ok (.iload 6, 2) := by decide +kernel
theorem d_Mo_whole_161 : decode c_Mo_whole 161 = .ok (.bipush 16, 2) := by decide +kernel
theorem d_Mo_whole_163 : decode c_Mo_whole 163 = .ok (.if_icmp .ne 44, 3) := by decide +kernel
theorem d_Mo_whole_166 : decode c_Mo_whole 166 = .ok (.lload_n 2, 1) := by decide +kernel
theorem d_Mo_whole_167 : decode c_Mo_whole 167 = .ok (.lconst 0, 1) := by decide +kernel
theorem d_Mo_whole_168 : decode c_Mo_whole 168 = .ok (.lcmp, 1) := by decide +kernel
theorem d_Mo_whole_169 : decode c_Mo_whole 169 = .ok (.ifCond .eq 38, 3) := by decide +kernel
theorem d_Mo_whole_172 : decode c_Mo_whole 172 = .ok (.aload_n 0, 1) := by decide +kernel
theorem d_Mo_whole_173 : decode c_Mo_whole 173 = .ok (.getfield 24, 3) := by decide +kernel
theorem d_Mo_whole_176 : decode c_Mo_whole 176 = .ok (.aload_n 0, 1) := by decide +kernel
theorem d_Mo_whole_177 : decode c_Mo_whole 177 = .ok (.dup, 1) := by decide +kernel
theorem d_Mo_whole_178 : decode c_Mo_whole 178 = .ok (.getfield 153, 3) := by decide +kernel
theorem d_Mo_whole_181 : decode c_Mo_whole 181 = .ok (.dup_x1, 1) := by decide +kernel
theorem d_Mo_whole_182 : decode c_Mo_whole 182 = .ok (.iconst 1, 1) := by decide +kernel
theorem d_Mo_whole_183 : decode c_Mo_whole 183 = .ok (.iadd, 1) := by decide +kernel
theorem d_Mo_whole_184 : decode c_Mo_whole 184 = .ok (.putfield 153, 3) := by decide +kernel
theorem d_Mo_whole_187 : decode c_Mo_whole 187 = .ok (.bipush 48, 2) := by decide +kernel
theorem d_Mo_whole_189 : decode c_Mo_whole 189 = .ok (.iastore, 1) := by decide +kernel
theorem d_Mo_whole_190 : decode c_Mo_whole 190 = .ok (.aload_n 0, 1) := by decide +kernel
theorem d_Mo_whole_191 : decode c_Mo_whole 191 = .ok (.getfield 24, 3) := by decide +kernel
theorem d_Mo_whole_194 : decode c_Mo_whole 194 = .ok (.aload_n 0, 1) := by decide +kernel
theorem d_Mo_whole_195 : decode c_Mo_whole 195 = .ok (.dup, 1) := by decide +kernel
theorem d_Mo_whole_196 : decode c_Mo_whole 196 = .ok (.getfield 153, 3) := by decide +kernel
theorem d_Mo_whole_199 : decode c_Mo_whole 199 = .ok (.dup_x1, 1) := by decide +kernel
theorem d_Mo_whole_200 : decode c_Mo_whole 200 = .ok (.iconst 1, 1) := by decide +kernel
theorem d_Mo_whole_201 : decode c_Mo_whole 201 = .ok (.iadd, 1) := by decide +kernel
theorem d_Mo_whole_202 : decode c_Mo_whole 202 = .ok (.putfield 153, 3) := by decide +kernel
theorem d_Mo_whole_205 : decode c_Mo_whole 205 = .ok (.iload_n 1, 1) := by decide +kernel
theorem d_Mo_whole_206 : decode c_Mo_whole 206 = .ok (.iastore, 1) := by decide +kernel
theorem d_Mo_whole_207 : decode c_Mo_whole 207 = .ok (.iload 7, 2) := by decide +kernel
theorem d_Mo_whole_209 : decode c_Mo_whole 209 = .ok (.istore 11, 2) := by decide +kernel
theorem d_Mo_whole_211 : decode c_Mo_whole 211 = .ok (.iload 11, 2) := by decide +kernel
theorem d_Mo_whole_213 : decode c_Mo_whole 213 = .ok (.iload 10, 2) := by decide +kernel
theorem d_Mo_whole_215 : decode c_Mo_whole 215 = .ok (.if_icmp .ge 15, 3) := by decide +kernel
theorem d_Mo_whole_218 : decode c_Mo_whole 218 = .ok (.aload_n 0, 1) := by decide +kernel
theorem d_Mo_whole_219 : decode c_Mo_whole 219 = .ok (.bipush 48, 2) := by decide +kernel
theorem d_Mo_whole_221 : decode c_Mo_whole 221 = .ok (.invokevirtual 162, 3) := by decide +kernel
theorem d_Mo_whole_224 : decode c_Mo_whole 224 = .ok (.iinc 11 1, 3) := by decide +kernel
theorem d_Mo_whole_227 : decode c_Mo_whole 227 = .ok (.goto (-16), 3) := by decide +kernel
theorem d_Mo_whole_230 : decode c_Mo_whole 230 = .ok (.iload 7, 2) := by decide +kernel
theorem d_Mo_whole_232 : decode c_Mo_whole 232 = .ok (.iconst 1, 1) := by decide +kernel
theorem d_Mo_whole_233 : decode c_Mo_whole 233 = .ok (.isub, 1) := by decide +kernel
theorem d_Mo_whole_234 : decode c_Mo_whole 234 = .ok (.istore 11, 2) := by decide +kernel
theorem d_Mo_whole_236 : decode c_Mo_whole 236 = .ok (.iload 11, 2) := by decide +kernel
theorem d_Mo_whole_238 : decode c_Mo_whole 238 = .ok (.ifCond .lt 34, 3) := by decide +kernel
theorem d_Mo_whole_241 : decode c_Mo_whole 241 = .ok (.aload_n 0, 1) := by decide +kernel
theorem d_Mo_whole_242 : decode c_Mo_whole 242 = .ok (.aload_n 0, 1) := by decide +kernel
theorem d_Mo_whole_243 : decode c_Mo_whole 243 = .ok (.getfield 30, 3) := by decide +kernel
theorem d_Mo_whole_246 : decode c_Mo_whole 246 = .ok (.iload 11, 2) := by decide +kernel
theorem d_Mo_whole_248 : decode c_Mo_whole 248 = .ok (.iaload, 1) := by decide +kernel
theorem d_Mo_whole_249 : decode c_Mo_whole 249 = .ok (.iload_n 1, 1) := by decide +kernel
theorem d_Mo_whole_250 : decode c_Mo_whole 250 = .ok (.bipush 88, 2) := by decide +kernel
theorem d_Mo_whole_252 : decode c_Mo_whole 252 = .ok (.if_icmp .ne 7, 3) := by decide +kernel
theorem d_Mo_whole_255 : decode c_Mo_whole 255 = .ok (.iconst 1, 1) := by decide +kernel
theorem d_Mo_whole_256 : decode c_Mo_whole 256 = .ok (.goto 4, 3) := by decide +kernel
theorem d_Mo_whole_259 : decode c_Mo_whole 259 = .ok (.iconst 0, 1) := by decide +kernel
theorem d_Mo_whole_260 : decode c_Mo_whole 260 = .ok (.invokestatic 185, 3) := by decide +kernel
theorem d_Mo_whole_263 : decode c_Mo_whole 263 = .ok (.invokevirtual 162, 3) := by decide +kernel
theorem d_Mo_whole_266 : decode c_Mo_whole 266 = .ok (.iinc 11 (-1), 3) := by decide +kernel
theorem d_Mo_whole_269 : decode c_Mo_whole 269 = .ok (.goto (-33), 3) := by decide +kernel
theorem d_Mo_whole_272 : decode c_Mo_whole 272 = .ok (.aload_n 0, 1) := by decide +kernel
theorem d_Mo_whole_273 : decode c_Mo_whole 273 = .ok (.getfield 79, 3) := by decide +kernel
theorem d_Mo_whole_276 : decode c_Mo_whole 276 = .ok (.ifCond .eq 79, 3) := by decide +kernel
theorem d_Mo_whole_279 : decode c_Mo_whole 279 = .ok (.iload 6, 2) := by decide +kernel
theorem d_Mo_whole_281 : decode c_Mo_whole 281 = .ok (.bipush 8, 2) := by decide +kernel
theorem d_Mo_whole_283 : decode c_Mo_whole 283 = .ok (.if_icmp .ne 72, 3) := by decide +kernel
theorem d_Mo_whole_286 : decode c_Mo_whole 286 = .ok (.aload_n 0, 1) := by decide +kernel
theorem d_Mo_whole_287 : decode c_Mo_whole 287 = .ok (.getfield 156, 3) := by decide +kernel
theorem d_Mo_whole_290 : decode c_Mo_whole 290 = .ok (.ifCond .eq 14, 3) := by decide +kernel
theorem d_Mo_whole_293 : decode c_Mo_whole 293 = .ok (.aload_n 0, 1) := by decide +kernel
theorem d_Mo_whole_294 : decode c_Mo_whole 294 = .ok (.getfield 27, 3) := by decide +kernel
theorem d_Mo_whole_297 : decode c_Mo_whole 297 = .ok (.iconst 0, 1) := by decide +kernel
theorem d_Mo_whole_298 : decode c_Mo_whole 298 = .ok (.iaload, 1) := by decide +kernel
theorem d_Mo_whole_299 : decode c_Mo_whole 299 = .ok (.bipush 48, 2) := by decide +kernel
theorem d_Mo_whole_301 : decode c_Mo_whole 301 = .ok (.if_icmp .eq 54, 3) := by decide +kernel
theorem d_Mo_whole_304 : decode c_Mo_whole 304 = .ok (.aload_n 0, 1) := by decide +kernel
theorem d_Mo_whole_305 : decode c_Mo_whole 305 = .ok (.getfield 156, 3) := by decide +kernel
theorem d_Mo_whole_308 : decode c_Mo_whole 308 = .ok (.istore 11, 2) := by decide +kernel
theorem d_Mo_whole_310 : decode c_Mo_whole 310 = .ok (.iload 11, 2) := by decide +kernel
theorem d_Mo_whole_312 : decode c_Mo_whole 312 = .ok (.ifCond .le 25, 3) := by decide +kernel
theorem d_Mo_whole_315 : decode c_Mo_whole 315 = .ok (.aload_n 0, 1) := by decide +kernel
theorem d_Mo_whole_316 : decode c_Mo_whole 316 = .ok (.getfield 27, 3) := by decide +kernel
theorem d_Mo_whole_319 : decode c_Mo_whole 319 = .ok (.iload 11, 2) := by decide +kernel
theorem d_Mo_whole_321 : decode c_Mo_whole 321 = .ok (.aload_n 0, 1) := by decide +kernel
theorem d_Mo_whole_322 : decode c_Mo_whole 322 = .ok (.getfield 27, 3) := by decide +kernel
theorem d_Mo_whole_325 : decode c_Mo_whole 325 = .ok (.iload 11, 2) := by decide +kernel
theorem d_Mo_whole_327 : decode c_Mo_whole 327 = .ok (.iconst 1, 1) := by decide +kernel
theorem d_Mo_whole_328 : decode c_Mo_whole 328 = .ok (.isub, 1) := by decide +kernel
theorem d_Mo_whole_329 : decode c_Mo_whole 329 = .ok (.iaload, 1) := by decide +kernel
theorem d_Mo_whole_330 : decode c_Mo_whole 330 = .ok (.iastore, 1) := by decide +kernel
theorem d_Mo_whole_331 : decode c_Mo_whole 331 = .ok (.iinc 11 (-1), 3) := by decide +kernel
theorem d_Mo_whole_334 : decode c_Mo_whole 334 = .ok (.goto (-24), 3) := by decide +kernel
theorem d_Mo_whole_337 : decode c_Mo_whole 337 = .ok (.aload_n 0, 1) := by decide +kernel
theorem d_Mo_whole_338 : decode c_Mo_whole 338 = .ok (.getfield 27, 3) := by decide +kernel
theorem d_Mo_whole_341 : decode c_Mo_whole 341 = .ok (.iconst 0, 1) := by decide +kernel
theorem d_Mo_whole_342 : decode c_Mo_whole 342 = .ok (.bipush 48, 2) := by decide +kernel
theorem d_Mo_whole_344 : decode c_Mo_whole 344 = .ok (.iastore, 1) := by decide +kernel
theorem d_Mo_whole_345 : decode c_Mo_whole 345 = .ok (.aload_n 0, 1) := by decide +kernel
theorem d_Mo_whole_346 : decode c_Mo_whole 346 = .ok (.dup, 1) := by decide +kernel
theorem d_Mo_whole_347 : decode c_Mo_whole 347 = .ok (.getfield 156, 3) := by decide +kernel
theorem d_Mo_whole_350 : decode c_Mo_whole 350 = .ok (.iconst 1, 1) := by decide +kernel
theorem d_Mo_whole_351 : decode c_Mo_whole 351 = .ok (.iadd, 1) := by decide +kernel
theorem d_Mo_whole_352 : decode c_Mo_whole 352 = .ok (.putfield 156, 3) := by decide +kernel
theorem d_Mo_whole_355 : decode c_Mo_whole 355 = .ok (.aload_n 0, 1) := by decide +kernel
theorem d_Mo_whole_356 : decode c_Mo_whole 356 = .ok (.aload_n 0, 1) := by decide +kernel
theorem d_Mo_whole_357 : decode c_Mo_whole 357 = .ok (.getfield 82, 3) := by decide +kernel
theorem d_Mo_whole_360 : decode c_Mo_whole 360 = .ok (.ifCond .eq 21, 3) := by decide +kernel
theorem d_Mo_whole_363 : decode c_Mo_whole 363 = .ok (.aload_n 0, 1) := by decide +kernel
theorem d_Mo_whole_364 : decode c_Mo_whole 364 = .ok (.getfield 69, 3) := by decide +kernel
theorem d_Mo_whole_367 : decode c_Mo_whole 367 = .ok (.ifCond .ne 14, 3) := by decide +kernel
theorem d_Mo_whole_370 : decode c_Mo_whole 370 = .ok (.aload_n 0, 1) := by decide +kernel
theorem d_Mo_whole_371 : decode c_Mo_whole 371 = .ok (.getfield 94, 3) := by decide +kernel
theorem d_Mo_whole_374 : decode c_Mo_whole 374 = .ok (.ifCond .ge 7, 3) := by decide +kernel
theorem d_Mo_whole_377 : decode c_Mo_whole 377 = .ok (.iconst 1, 1) := by decide +kernel
theorem d_Mo_whole_378 : decode c_Mo_whole 378 = .ok (.goto 4, 3) := by decide +kernel
theorem d_Mo_whole_381 : decode c_Mo_whole 381 = .ok (.iconst 0, 1) := by decide +kernel
theorem d_Mo_whole_382 : decode c_Mo_whole 382 = .ok (.putfield 159, 3) := by decide +kernel
theorem d_Mo_whole_385 : decode c_Mo_whole 385 = .ok (.return_, 1) := by decide +kernel
theorem d_Mo_decimal_0 : decode c_Mo_decimal 0 = .ok (.iconst 0, 1) := by decide +kernel
theorem d_Mo_decimal_1 : decode c_Mo_decimal 1 = .ok (.istore 4, 2) := by decide +kernel
theorem d_Mo_decimal_3 : decode c_Mo_decimal 3 = .ok (.lload_n 1, 1) := by decide +kernel
theorem d_Mo_decimal_4 : decode c_Mo_decimal 4 = .ok (.lstore 5, 2) := by decide +kernel
theorem d_Mo_decimal_6 : decode c_Mo_decimal 6 = .ok (.lload 5, 2) := by decide +kernel
theorem d_Mo_decimal_8 : decode c_Mo_decimal 8 = .ok (.lconst 0, 1) := by decide +kernel
theorem d_Mo_decimal_9 : decode c_Mo_decimal 9 = .ok (.lcmp, 1) := by decide +kernel
theorem d_Mo_decimal_10 : decode c_Mo_decimal 10 = .ok (.ifCond .le 31, 3) := by decide +kernel
theorem d_Mo_decimal_13 : decode c_Mo_decimal 13 = .ok (.aload_n 0, 1) := by decide +kernel
theorem d_Mo_decimal_14 : decode c_Mo_decimal 14 = .ok (.getfield 33, 3) := by decide +kernel
theorem d_Mo_decimal_17 : decode c_Mo_decimal 17 = .ok (.iload 4, 2) := by decide +kernel
theorem d_Mo_decimal_19 : decode c_Mo_decimal 19 = .ok (.iinc 4 1, 3) := by decide +kernel
theorem d_Mo_decimal_22 : decode c_Mo_decimal 22 = .ok (.lload 5, 2) := by decide +kernel
theorem d_Mo_decimal_24 : decode c_Mo_decimal 24 = .ok (.ldc2_w 189, 3) := by decide +kernel
theorem d_Mo_decimal_27 : decode c_Mo_decimal 27 = .ok (.lrem, 1) := by decide +kernel
theorem d_Mo_decimal_28 : decode c_Mo_decimal 28 = .ok (.l2i, 1) := by decide +kernel
theorem d_Mo_decimal_29 : decode c_Mo_decimal 29 = .ok (.iastore, 1) := by decide +kernel
theorem d_Mo_decimal_30 : decode c_Mo_decimal 30 = .ok (.lload 5, 2) := by decide +kernel
theorem d_Mo_decimal_32 : decode c_Mo_decimal 32 = .ok (.ldc2_w 189, 3) := by decide +kernel
theorem d_Mo_decimal_35 : decode c_Mo_decimal 35 = .ok (.ldiv, 1) := by decide +kernel
theorem d_Mo_decimal_36 : decode c_Mo_decimal 36 = .ok (.lstore 5, 2) := by decide +kernel
theorem d_Mo_decimal_38 : decode c_Mo_decimal 38 = .ok (.goto (-32), 3) := by decide +kernel
theorem d_Mo_decimal_41 : decode c_Mo_decimal 41 = .ok (.iload_n 3, 1) := by decide +kernel
theorem d_Mo_decimal_42 : decode c_Mo_decimal 42 = .ok (.ifCond .ge 7, 3) := by decide +kernel
theorem d_Mo_decimal_45 : decode c_Mo_decimal 45 = .ok (.iconst 5, 1) := by decide +kernel
theorem d_Mo_decimal_46 : decode c_Mo_decimal 46 = .ok (.goto 4, 3) := by decide +kernel
theorem d_Mo_decimal_49 : decode c_Mo_decimal 49 = .ok (.iconst 2, 1) := by decide +kernel
theorem d_Mo_decimal_50 : decode c_Mo_decimal 50 = .ok (.istore 5, 2) := by decide +kernel
theorem d_Mo_decimal_52 : decode c_Mo_decimal 52 = .ok (.iload_n 3, 1) := by decide +kernel
theorem d_Mo_decimal_53 : decode c_Mo_decimal 53 = .ok (.ifCond .ge 8, 3) := by decide +kernel
theorem d_Mo_decimal_56 : decode c_Mo_decimal 56 = .ok (.iload_n 3, 1) := by decide +kernel
theorem d_Mo_decimal_57 : decode c_Mo_decimal 57 = .ok (.ineg, 1) := by decide +kernel
theorem d_Mo_decimal_58 : decode c_Mo_decimal 58 = .ok (.goto 4, 3) := by decide +kernel
theorem d_Mo_decimal_61 : decode c_Mo_decimal 61 = .ok (.iload_n 3, 1) := by decide +kernel
theorem d_Mo_decimal_62 : decode c_Mo_decimal 62 = .ok (.istore 6, 2) := by decide +kernel
theorem d_Mo_decimal_64 : decode c_Mo_decimal 64 = .ok (.iconst 0, 1) := by decide +kernel
theorem d_Mo_decimal_65 : decode c_Mo_decimal 65 = .ok (.istore 7, 2) := by decide +kernel
theorem d_Mo_decimal_67 : decode c_Mo_decimal 67 = .ok (.iload 7, 2) := by decide +kernel
theorem d_Mo_decimal_69 : decode c_Mo_decimal 69 = .ok (.iload 6, 2) := by decide +kernel
theorem d_Mo_decimal_71 : decode c_Mo_decimal 71 = .ok (.if_icmp .ge 79, 3) := by decide +kernel
theorem d_Mo_decimal_74 : decode c_Mo_decimal 74 = .ok (.iconst 0, 1) := by decide +kernel
theorem d_Mo_decimal_75 : decode c_Mo_decimal 75 = .ok (.istore 8, 2) := by decide +kernel
theorem d_Mo_decimal_77 : decode c_Mo_decimal 77 = .ok (.iconst 0, 1) := by decide +kernel
theorem d_Mo_decimal_78 : decode c_Mo_decimal 78 = .ok (.istore 9, 2) := by decide +kernel
theorem d_Mo_decimal_80 : decode c_Mo_decimal 80 = .ok (.iload 9, 2) := by decide +kernel
theorem d_Mo_decimal_82 : decode c_Mo_decimal 82 = .ok (.iload 4, 2) := by decide +kernel
theorem d_Mo_decimal_84 : decode c_Mo_decimal 84 = .ok (.if_icmp .ge 43, 3) := by decide +kernel
theorem d_Mo_decimal_87 : decode c_Mo_decimal 87 = .ok (.iload 5, 2) := by decide +kernel
theorem d_Mo_decimal_89 : decode c_Mo_decimal 89 = .ok (.aload_n 0, 1) := by decide +kernel
theorem d_Mo_decimal_90 : decode c_Mo_decimal 90 = .ok (.getfield 33, 3) := by decide +kernel
theorem d_Mo_decimal_93 : decode c_Mo_decimal 93 = .ok (.iload 9, 2) := by decide +kernel
theorem d_Mo_decimal_95 : decode c_Mo_decimal 95 = .ok (.iaload, 1) := by decide +kernel
theorem d_Mo_decimal_96 : decode c_Mo_decimal 96 = .ok (.imul, 1) := by decide +kernel
theorem d_Mo_decimal_97 : decode c_Mo_decimal 97 = .ok (.iload 8, 2) := by decide +kernel
theorem d_Mo_decimal_99 : decode c_Mo_decimal 99 = .ok (.iadd, 1) := by decide +kernel
theorem d_Mo_decimal_100 : decode c_Mo_decimal 100 = .ok (.istore 10, 2) := by decide +kernel
theorem d_Mo_decimal_102 : decode c_Mo_decimal 102 = .ok (.aload_n 0, 1) := by decide +kernel
theorem d_Mo_decimal_103 : decode c_Mo_decimal 103 = .ok (.getfield 33, 3) := by decide +kernel
theorem d_Mo_decimal_106 : decode c_Mo_decimal 106 = .ok (.iload 9, 2) := by decide +kernel
theorem d_Mo_decimal_108 : decode c_Mo_decimal 108 = .ok (.iload 10, 2) := by decide +kernel
theorem d_Mo_decimal_110 : decode c_Mo_decimal 110 = .ok (.bipush 10, 2) := by decide +kernel
theorem d_Mo_decimal_112 : decode c_Mo_decimal 112 = .ok (.irem, 1) := by decide +kernel
theorem d_Mo_decimal_113 : decode c_Mo_decimal 113 = .ok (.iastore, 1) := by decide +kernel
theorem d_Mo_decimal_114 : decode c_Mo_decimal 114 = .ok (.iload 10, 2) := by decide +kernel
theorem d_Mo_decimal_116 : decode c_Mo_decimal 116 = .ok (.bipush 10, 2) := by decide +kernel
theorem d_Mo_decimal_118 : decode c_Mo_decimal 118 = .ok (.idiv, 1) := by decide +kernel
theorem d_Mo_decimal_119 : decode c_Mo_decimal 119 = .ok (.istore 8, 2) := by decide +kernel
theorem d_Mo_decimal_121 : decode c_Mo_decimal 121 = .ok (.iinc 9 1, 3) := by decide +kernel
theorem d_Mo_decimal_124 : decode c_Mo_decimal 124 = .ok (.goto (-44), 3) := by decide +kernel
theorem d_Mo_decimal_127 : decode c_Mo_decimal 127 = .ok (.iload 8, 2) := by decide +kernel
theorem d_Mo_decimal_129 : decode c_Mo_decimal 129 = .ok (.ifCond .le 15, 3) := by decide +kernel
theorem d_Mo_decimal_132 : decode c_Mo_decimal 132 = .ok (.aload_n 0, 1) := by decide +kernel
theorem d_Mo_decimal_133 : decode c_Mo_decimal 133 = .ok (.getfield 33, 3) := by decide +kernel
theorem d_Mo_decimal_136 : decode c_Mo_decimal 136 = .ok (.iload 4, 2) := by decide +kernel
theorem d_Mo_decimal_138 : decode c_Mo_decimal 138 = .ok (.iinc 4 1, 3) := by decide +kernel
theorem d_Mo_decimal_141 : decode c_Mo_decimal 141 = .ok (.iload 8, 2) := by decide +kernel
theorem d_Mo_decimal_143 : decode c_Mo_decimal 143 = .ok (.iastore, 1) := by decide +kernel
theorem d_Mo_decimal_144 : decode c_Mo_decimal 144 = .ok (.iinc 7 1, 3) := by decide +kernel
theorem d_Mo_decimal_147 : decode c_Mo_decimal 147 = .ok (.goto (-80), 3) := by decide +kernel
theorem d_Mo_decimal_150 : decode c_Mo_decimal 150 = .ok (.iconst 0, 1) := by decide +kernel
theorem d_Mo_decimal_151 : decode c_Mo_decimal 151 = .ok (.istore 7, 2) := by decide +kernel
theorem d_Mo_decimal_153 : decode c_Mo_decimal 153 = .ok (.iload 7, 2) := by decide +kernel
theorem d_Mo_decimal_155 : decode c_Mo_decimal 155 = .ok (.iload 4, 2) := by decide +kernel
theorem d_Mo_decimal_157 : decode c_Mo_decimal 157 = .ok (.iconst 2, 1) := by decide +kernel
theorem d_Mo_decimal_158 : decode c_Mo_decimal 158 = .ok (.idiv, 1) := by decide +kernel
theorem d_Mo_decimal_159 : decode c_Mo_decimal 159 = .ok (.if_icmp .ge 51, 3) := by decide +kernel
theorem d_Mo_decimal_162 : decode c_Mo_decimal 162 = .ok (.aload_n 0, 1) := by decide +kernel
theorem d_Mo_decimal_163 : decode c_Mo_decimal 163 = .ok (.getfield 33, 3) := by decide +kernel
theorem d_Mo_decimal_166 : decode c_Mo_decimal 166 = .ok (.iload 7, 2) := by decide +kernel
theorem d_Mo_decimal_168 : decode c_Mo_decimal 168 = .ok (.iaload, 1) := by decide +kernel
theorem d_Mo_decimal_169 : decode c_Mo_decimal 169 = .ok (.istore 8, 2) := by decide +kernel
theorem d_Mo_decimal_171 : decode c_Mo_decimal 171 = .ok (.aload_n 0, 1) := by decide +kernel
theorem d_Mo_decimal_172 : decode c_Mo_decimal 172 = .ok (.getfield 33, 3) := by decide +kernel
theorem d_Mo_decimal_175 : decode c_Mo_decimal 175 = .ok (.iload 7, 2) := by decide +kernel
theorem d_Mo_decimal_177 : decode c_Mo_decimal 177 = .ok (.aload_n 0, 1) := by decide +kernel
theorem d_Mo_decimal_178 : decode c_Mo_decimal 178 = .ok (.getfield 33, 3) := by decide +kernel
theorem d_Mo_decimal_181 : decode c_Mo_decimal 181 = .ok (.iload 4, 2) := by decide +kernel
theorem d_Mo_decimal_183 : decode c_Mo_decimal 183 = .ok (.iconst 1, 1) := by decide +kernel
theorem d_Mo_decimal_184 : decode c_Mo_decimal 184 = .ok (.isub, 1) := by decide +kernel
theorem d_Mo_decimal_185 : decode c_Mo_decimal 185 = .ok (.iload 7, 2) := by decide +kernel
theorem d_Mo_decimal_187 : decode c_Mo_decimal 187 = .ok (.isub, 1) := by decide +kernel
theorem d_Mo_decimal_188 : decode c_Mo_decimal 188 = .ok (.iaload, 1) := by decide +kernel
theorem d_Mo_decimal_189 : decode c_Mo_decimal 189 = .ok (.iastore, 1) := by decide +kernel
theorem d_Mo_decimal_190 : decode c_Mo_decimal 190 = .ok (.aload_n 0, 1) := by decide +kernel
theorem d_Mo_decimal_191 : decode c_Mo_decimal 191 = .ok (.getfield 33, 3) := by decide +kernel
theorem d_Mo_decimal_194 : decode c_Mo_decimal 194 = .ok (.iload 4, 2) := by decide +kernel
theorem d_Mo_decimal_196 : decode c_Mo_decimal 196 = .ok (.iconst 1, 1) := by decide +kernel
theorem d_Mo_decimal_197 : decode c_Mo_decimal 197 = .ok (.isub, 1) := by decide +kernel
theorem d_Mo_decimal_198 : decode c_Mo_decimal 198 = .ok (.iload 7, 2) := by decide +kernel
theorem d_Mo_decimal_200 : decode c_Mo_decimal 200 = .ok (.isub, 1) := by decide +kernel
theorem d_Mo_decimal_201 : decode c_Mo_decimal 201 = .ok (.iload 8, 2) := by decide +kernel
theorem d_Mo_decimal_203 : decode c_Mo_decimal 203 = .ok (.iastore, 1) := by decide +kernel
theorem d_Mo_decimal_204 : decode c_Mo_decimal 204 = .ok (.iinc 7 1, 3) := by decide +kernel
theorem d_Mo_decimal_207 : decode c_Mo_decimal 207 = .ok (.goto (-54), 3) := by decide +kernel
theorem d_Mo_decimal_210 : decode c_Mo_decimal 210 = .ok (.aload_n 0, 1) := by decide +kernel
theorem d_Mo_decimal_211 : decode c_Mo_decimal 211 = .ok (.iload 4, 2) := by decide +kernel
theorem d_Mo_decimal_213 : decode c_Mo_decimal 213 = .ok (.putfield 191, 3) := by decide +kernel
theorem d_Mo_decimal_216 : decode c_Mo_decimal 216 = .ok (.aload_n 0, 1) := by decide +kernel
theorem d_Mo_decimal_217 : decode c_Mo_decimal 217 = .ok (.iload_n 3, 1) := by decide +kernel
theorem d_Mo_decimal_218 : decode c_Mo_decimal 218 = .ok (.ifCond .ge 10, 3) := by decide +kernel
theorem d_Mo_decimal_221 : decode c_Mo_decimal 221 = .ok (.iload 4, 2) := by decide +kernel
theorem d_Mo_decimal_223 : decode c_Mo_decimal 223 = .ok (.iload_n 3, 1) := by decide +kernel
theorem d_Mo_decimal_224 : decode c_Mo_decimal 224 = .ok (.iadd, 1) := by decide +kernel
theorem d_Mo_decimal_225 : decode c_Mo_decimal 225 = .ok (.goto 5, 3) := by decide +kernel
theorem d_Mo_decimal_228 : decode c_Mo_decimal 228 = .ok (.iload 4, 2) := by decide +kernel
theorem d_Mo_decimal_230 : decode c_Mo_decimal 230 = .ok (.putfield 194, 3) := by decide +kernel
theorem d_Mo_decimal_233 : decode c_Mo_decimal 233 = .ok (.return_, 1) := by decide +kernel
theorem d_Mo_cut_0 : decode c_Mo_cut 0 = .ok (.iconst 0, 1) := by decide +kernel
theorem d_Mo_cut_1 : decode c_Mo_cut 1 = .ok (.istore_n 2, 1) := by decide +kernel
theorem d_Mo_cut_2 : decode c_Mo_cut 2 = .ok (.iload_n 2, 1) := by decide +kernel
theorem d_Mo_cut_3 : decode c_Mo_cut 3 = .ok (.iload_n 1, 1) := by decide +kernel
theorem d_Mo_cut_4 : decode c_Mo_cut 4 = .ok (.if_icmp .ge 33, 3) := by decide +kernel
theorem d_Mo_cut_7 : decode c_Mo_cut 7 = .ok (.aload_n 0, 1) := by decide +kernel
theorem d_Mo_cut_8 : decode c_Mo_cut 8 = .ok (.getfield 36, 3) := by decide +kernel
theorem d_Mo_cut_11 : decode c_Mo_cut 11 = .ok (.iload_n 2, 1) := by decide +kernel
theorem d_Mo_cut_12 : decode c_Mo_cut 12 = .ok (.iload_n 2, 1) := by decide +kernel
theorem d_Mo_cut_13 : decode c_Mo_cut 13 = .ok (.aload_n 0, 1) := by decide +kernel
theorem d_Mo_cut_14 : decode c_Mo_cut 14 = .ok (.getfield 191, 3) := by decide +kernel
theorem d_Mo_cut_17 : decode c_Mo_cut 17 = .ok (.if_icmp .ge 12, 3) := by decide +kernel
theorem d_Mo_cut_20 : decode c_Mo_cut 20 = .ok (.aload_n 0, 1) := by decide +kernel
theorem d_Mo_cut_21 : decode c_Mo_cut 21 = .ok (.getfield 33, 3) := by decide +kernel
theorem d_Mo_cut_24 : decode c_Mo_cut 24 = .ok (.iload_n 2, 1) := by decide +kernel
theorem d_Mo_cut_25 : decode c_Mo_cut 25 = .ok (.iaload, 1) := by decide +kernel
theorem d_Mo_cut_26 : decode c_Mo_cut 26 = .ok (.goto 4, 3) := by decide +kernel
theorem d_Mo_cut_29 : decode c_Mo_cut 29 = .ok (.iconst 0, 1) := by decide +kernel
theorem d_Mo_cut_30 : decode c_Mo_cut 30 = .ok (.iastore, 1) := by decide +kernel
theorem d_Mo_cut_31 : decode c_Mo_cut 31 = .ok (.iinc 2 1, 3) := by decide +kernel
theorem d_Mo_cut_34 : decode c_Mo_cut 34 = .ok (.goto (-32), 3) := by decide +kernel
theorem d_Mo_cut_37 : decode c_Mo_cut 37 = .ok (.iload_n 1, 1) := by decide +kernel
theorem d_Mo_cut_38 : decode c_Mo_cut 38 = .ok (.ifCond .lt 11, 3) := by decide +kernel
theorem d_Mo_cut_41 : decode c_Mo_cut 41 = .ok (.iload_n 1, 1) := by decide +kernel
theorem d_Mo_cut_42 : decode c_Mo_cut 42 = .ok (.aload_n 0, 1) := by decide +kernel
theorem d_Mo_cut_43 : decode c_Mo_cut 43 = .ok (.getfield 191, 3) := by decide +kernel
theorem d_Mo_cut_46 : decode c_Mo_cut 46 = .ok (.if_icmp .lt 5, 3) := by decide +kernel
theorem d_Mo_cut_49 : decode c_Mo_cut 49 = .ok (.iconst 0, 1) := by decide +kernel
theorem d_Mo_cut_50 : decode c_Mo_cut 50 = .ok (.ireturn, 1) := by decide +kernel
theorem d_Mo_cut_51 : decode c_Mo_cut 51 = .ok (.aload_n 0, 1) := by decide +kernel
theorem d_Mo_cut_52 : decode c_Mo_cut 52 = .ok (.getfield 33, 3) := by decide +kernel
theorem d_Mo_cut_55 : decode c_Mo_cut 55 = .ok (.iload_n 1, 1) := by decide +kernel
theorem d_Mo_cut_56 : decode c_Mo_cut 56 = .ok (.iaload, 1) := by decide +kernel
theorem d_Mo_cut_57 : decode c_Mo_cut 57 = .ok (.iconst 5, 1) := by decide +kernel
theorem d_Mo_cut_58 : decode c_Mo_cut 58 = .ok (.if_icmp .ne 7, 3) := by decide +kernel
theorem d_Mo_cut_61 : decode c_Mo_cut 61 = .ok (.iconst 1, 1) := by decide +kernel
theorem d_Mo_cut_62 : decode c_Mo_cut 62 = .ok (.goto 4, 3) := by decide +kernel
theorem d_Mo_cut_65 : decode c_Mo_cut 65 = .ok (.iconst 0, 1) := by decide +kernel
theorem d_Mo_cut_66 : decode c_Mo_cut 66 = .ok (.istore_n 2, 1) := by decide +kernel
theorem d_Mo_cut_67 : decode c_Mo_cut 67 = .ok (.aload_n 0, 1) := by decide +kernel
theorem d_Mo_cut_68 : decode c_Mo_cut 68 = .ok (.getfield 33, 3) := by decide +kernel
theorem d_Mo_cut_71 : decode c_Mo_cut 71 = .ok (.iload_n 1, 1) := by decide +kernel
theorem d_Mo_cut_72 : decode c_Mo_cut 72 = .ok (.iaload, 1) := by decide +kernel
theorem d_Mo_cut_73 : decode c_Mo_cut 73 = .ok (.iconst 5, 1) := by decide +kernel
theorem d_Mo_cut_74 : decode c_Mo_cut 74 = .ok (.if_icmp .le 7, 3) := by decide +kernel
theorem d_Mo_cut_77 : decode c_Mo_cut 77 = .ok (.iconst 1, 1) := by decide +kernel
theorem d_Mo_cut_78 : decode c_Mo_cut 78 = .ok (.goto 4, 3) := by decide +kernel
theorem d_Mo_cut_81 : decode c_Mo_cut 81 = .ok (.iconst 0, 1) := by decide +kernel
theorem d_Mo_cut_82 : decode c_Mo_cut 82 = .ok (.istore_n 3, 1) := by decide +kernel
theorem d_Mo_cut_83 : decode c_Mo_cut 83 = .ok (.iload_n 1, 1) := by decide +kernel
theorem d_Mo_cut_84 : decode c_Mo_cut 84 = .ok (.iconst 1, 1) := by decide +kernel
theorem d_Mo_cut_85 : decode c_Mo_cut 85 = .ok (.iadd, 1) := by decide +kernel
theorem d_Mo_cut_86 : decode c_Mo_cut 86 = .ok (.istore 4, 2) := by decide +kernel
theorem d_Mo_cut_88 : decode c_Mo_cut 88 = .ok (.iload 4, 2) := by decide +kernel
theorem d_Mo_cut_90 : decode c_Mo_cut 90 = .ok (.aload_n 0, 1) := by decide +kernel
theorem d_Mo_cut_91 : decode c_Mo_cut 91 = .ok (.getfield 191, 3) := by decide +kernel
theorem d_Mo_cut_94 : decode c_Mo_cut 94 = .ok (.if_icmp .ge 27, 3) := by decide +kernel
theorem d_Mo_cut_97 : decode c_Mo_cut 97 = .ok (.iload_n 2, 1) := by decide +kernel
theorem d_Mo_cut_98 : decode c_Mo_cut 98 = .ok (.ifCond .eq 23, 3) := by decide +kernel
theorem d_Mo_cut_101 : decode c_Mo_cut 101 = .ok (.aload_n 0, 1) := by decide +kernel
theorem d_Mo_cut_102 : decode c_Mo_cut 102 = .ok (.getfield 33, 3) := by decide +kernel
theorem d_Mo_cut_105 : decode c_Mo_cut 105 = .ok (.iload 4, 2) := by decide +kernel
theorem d_Mo_cut_107 : decode c_Mo_cut 107 = .ok (.iaload, 1) := by decide +kernel
theorem d_Mo_cut_108 : decode c_Mo_cut 108 = .ok (.ifCond .eq 7, 3) := by decide +kernel
theorem d_Mo_cut_111 : decode c_Mo_cut 111 = .ok (.iconst 0, 1) := by decide +kernel
theorem d_Mo_cut_112 : decode c_Mo_cut 112 = .ok (.istore_n 2, 1) := by decide +kernel
theorem d_Mo_cut_113 : decode c_Mo_cut 113 = .ok (.iconst 1, 1) := by decide +kernel
theorem d_Mo_cut_114 : decode c_Mo_cut 114 = .ok (.istore_n 3, 1) := by decide +kernel
theorem d_Mo_cut_115 : decode c_Mo_cut 115 = .ok (.iinc 4 1, 3) := by decide +kernel
theorem d_Mo_cut_118 : decode c_Mo_cut 118 = .ok (.goto (-30), 3) := by decide +kernel
theorem d_Mo_cut_121 : decode c_Mo_cut 121 = .ok (.iload_n 3, 1) := by decide +kernel
theorem d_Mo_cut_122 : decode c_Mo_cut 122 = .ok (.ifCond .ne 25, 3) := by decide +kernel
theorem d_Mo_cut_125 : decode c_Mo_cut 125 = .ok (.iload_n 2, 1) := by decide +kernel
theorem d_Mo_cut_126 : decode c_Mo_cut 126 = .ok (.ifCond .eq 25, 3) := by decide +kernel
theorem d_Mo_cut_129 : decode c_Mo_cut 129 = .ok (.iload_n 1, 1) := by decide +kernel
theorem d_Mo_cut_130 : decode c_Mo_cut 130 = .ok (.ifCond .le 21, 3) := by decide +kernel
theorem d_Mo_cut_133 : decode c_Mo_cut 133 = .ok (.aload_n 0, 1) := by decide +kernel
theorem d_Mo_cut_134 : decode c_Mo_cut 134 = .ok (.getfield 36, 3) := by decide +kernel
theorem d_Mo_cut_137 : decode c_Mo_cut 137 = .ok (.iload_n 1, 1) := by decide +kernel
theorem d_Mo_cut_138 : decode c_Mo_cut 138 = .ok (.iconst 1, 1) := by decide +kernel
theorem d_Mo_cut_139 : decode c_Mo_cut 139 = .ok (.isub, 1) := by decide +kernel
theorem d_Mo_cut_140 : decode c_Mo_cut 140 = .ok (.iaload, 1) := by decide +kernel
theorem d_Mo_cut_141 : decode c_Mo_cut 141 = .ok (.iconst 2, 1) := by decide +kernel
theorem d_Mo_cut_142 : decode c_Mo_cut 142 = .ok (.irem, 1) := by decide +kernel
theorem d_Mo_cut_143 : decode c_Mo_cut 143 = .ok (.iconst 1, 1) := by decide +kernel
theorem d_Mo_cut_144 : decode c_Mo_cut 144 = .ok (.if_icmp .ne 7, 3) := by decide +kernel
theorem d_Mo_cut_147 : decode c_Mo_cut 147 = .ok (.iconst 1, 1) := by decide +kernel
theorem d_Mo_cut_148 : decode c_Mo_cut 148 = .ok (.goto 4, 3) := by decide +kernel
theorem d_Mo_cut_151 : decode c_Mo_cut 151 = .ok (.iconst 0, 1) := by decide +kernel
theorem d_Mo_cut_152 : decode c_Mo_cut 152 = .ok (.istore 4, 2) := by decide +kernel
theorem d_Mo_cut_154 : decode c_Mo_cut 154 = .ok (.iload 4, 2) := by decide +kernel
theorem d_Mo_cut_156 : decode c_Mo_cut 156 = .ok (.ifCond .ne 5, 3) := by decide +kernel
theorem d_Mo_cut_159 : decode c_Mo_cut 159 = .ok (.iconst 0, 1) := by decide +kernel
theorem d_Mo_cut_160 : decode c_Mo_cut 160 = .ok (.ireturn, 1) := by decide +kernel
theorem d_Mo_cut_161 : decode c_Mo_cut 161 = .ok (.iload_n 1, 1) := by decide +kernel
theorem d_Mo_cut_162 : decode c_Mo_cut 162 = .ok (.iconst 1, 1) := by decide +kernel
theorem d_Mo_cut_163 : decode c_Mo_cut 163 = .ok (.isub, 1) := by decide +kernel
theorem d_Mo_cut_164 : decode c_Mo_cut 164 = .ok (.istore 5, 2) := by decide +kernel
theorem d_Mo_cut_166 : decode c_Mo_cut 166 = .ok (.iload 5, 2) := by decide +kernel
theorem d_Mo_cut_168 : decode c_Mo_cut 168 = .ok (.ifCond .lt 29, 3) := by decide +kernel
theorem d_Mo_cut_171 : decode c_Mo_cut 171 = .ok (.aload_n 0, 1) := by decide +kernel
theorem d_Mo_cut_172 : decode c_Mo_cut 172 = .ok (.getfield 36, 3) := by decide +kernel
theorem d_Mo_cut_175 : decode c_Mo_cut 175 = .ok (.iload 5, 2) := by decide +kernel
theorem d_Mo_cut_177 : decode c_Mo_cut 177 = .ok (.iaload, 1) := by decide +kernel
theorem d_Mo_cut_178 : decode c_Mo_cut 178 = .ok (.bipush 9, 2) := by decide +kernel
theorem d_Mo_cut_180 : decode c_Mo_cut 180 = .ok (.if_icmp .ne 17, 3) := by decide +kernel
theorem d_Mo_cut_183 : decode c_Mo_cut 183 = .ok (.aload_n 0, 1) := by decide +kernel
theorem d_Mo_cut_184 : decode c_Mo_cut 184 = .ok (.getfield 36, 3) := by decide +kernel
theorem d_Mo_cut_187 : decode c_Mo_cut 187 = .ok (.iload 5, 2) := by decide +kernel
theorem d_Mo_cut_189 : decode c_Mo_cut 189 = .ok (.iinc 5 (-1), 3) := by decide +kernel
theorem d_Mo_cut_192 : decode c_Mo_cut 192 = .ok (.iconst 0, 1) := by decide +kernel
theorem d_Mo_cut_193 : decode c_Mo_cut 193 = .ok (.iastore, 1) := by decide +kernel
theorem d_Mo_cut_194 : decode c_Mo_cut 194 = .ok (.goto (-28), 3) := by decide +kernel
theorem d_Mo_cut_197 : decode c_Mo_cut 197 = .ok (.iload 5, 2) := by decide +kernel
theorem d_Mo_cut_199 : decode c_Mo_cut 199 = .ok (.ifCond .lt 16, 3) := by decide +kernel
theorem d_Mo_cut_202 : decode c_Mo_cut 202 = .ok (.aload_n 0, 1) := by decide +kernel
theorem d_Mo_cut_203 : decode c_Mo_cut 203 = .ok (.getfield 36, 3) := by decide +kernel
theorem d_Mo_cut_206 : decode c_Mo_cut 206 = .ok (.iload 5, 2) := by decide +kernel
theorem d_Mo_cut_208 : decode c_Mo_cut 208 = .ok (.dup2, 1) := by decide +kernel
theorem d_Mo_cut_209 : decode c_Mo_cut 209 = .ok (.iaload, 1) := by decide +kernel
theorem d_Mo_cut_210 : decode c_Mo_cut 210 = .ok (.iconst 1, 1) := by decide +kernel
theorem d_Mo_cut_211 : decode c_Mo_cut 211 = .ok (.iadd, 1) := by decide +kernel
theorem d_Mo_cut_212 : decode c_Mo_cut 212 = .ok (.iastore, 1) := by decide +kernel
theorem d_Mo_cut_213 : decode c_Mo_cut 213 = .ok (.iconst 0, 1) := by decide +kernel
theorem d_Mo_cut_214 : decode c_Mo_cut 214 = .ok (.ireturn, 1) := by decide +kernel
theorem d_Mo_cut_215 : decode c_Mo_cut 215 = .ok (.iload_n 1, 1) := by decide +kernel
theorem d_Mo_cut_216 : decode c_Mo_cut 216 = .ok (.istore 6, 2) := by decide +kernel
theorem d_Mo_cut_218 : decode c_Mo_cut 218 = .ok (.iload 6, 2) := by decide +kernel
theorem d_Mo_cut_220 : decode c_Mo_cut 220 = .ok (.ifCond .le 25, 3) := by decide +kernel
theorem d_Mo_cut_223 : decode c_Mo_cut 223 = .ok (.aload_n 0, 1) := by decide +kernel
theorem d_Mo_cut_224 : decode c_Mo_cut 224 = .ok (.getfield 36, 3) := by decide +kernel
