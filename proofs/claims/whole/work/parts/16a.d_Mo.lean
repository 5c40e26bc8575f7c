/-! decode rows: Mo -/
theorem d_Mo_init_0 : decode c_Mo_init 0 = .ok (.aload_n 0, 1) := by decide +kernel
theorem d_Mo_init_1 : decode c_Mo_init 1 = .ok (.invokespecial 1, 3) := by decide +kernel
theorem d_Mo_init_4 : decode c_Mo_init 4 = .ok (.aload_n 0, 1) := by decide +kernel
theorem d_Mo_init_5 : decode c_Mo_init 5 = .ok (.iconst (-1), 1) := by decide +kernel
theorem d_Mo_init_6 : decode c_Mo_init 6 = .ok (.putfield 7, 3) := by decide +kernel
theorem d_Mo_init_9 : decode c_Mo_init 9 = .ok (.aload_n 0, 1) := by decide +kernel
theorem d_Mo_init_10 : decode c_Mo_init 10 = .ok (.sipush 400, 3) := by decide +kernel
theorem d_Mo_init_13 : decode c_Mo_init 13 = .ok (.newarray .int, 2) := by decide +kernel
theorem d_Mo_init_15 : decode c_Mo_init 15 = .ok (.putfield 13, 3) := by decide +kernel
theorem d_Mo_init_18 : decode c_Mo_init 18 = .ok (.aload_n 0, 1) := by decide +kernel
theorem d_Mo_init_19 : decode c_Mo_init 19 = .ok (.sipush 4000, 3) := by decide +kernel
theorem d_Mo_init_22 : decode c_Mo_init 22 = .ok (.newarray .int, 2) := by decide +kernel
theorem d_Mo_init_24 : decode c_Mo_init 24 = .ok (.putfield 17, 3) := by decide +kernel
theorem d_Mo_init_27 : decode c_Mo_init 27 = .ok (.aload_n 0, 1) := by decide +kernel
theorem d_Mo_init_28 : decode c_Mo_init 28 = .ok (.bipush 60, 2) := by decide +kernel
theorem d_Mo_init_30 : decode c_Mo_init 30 = .ok (.newarray .long, 2) := by decide +kernel
theorem d_Mo_init_32 : decode c_Mo_init 32 = .ok (.putfield 20, 3) := by decide +kernel
theorem d_Mo_init_35 : decode c_Mo_init 35 = .ok (.aload_n 0, 1) := by decide +kernel
theorem d_Mo_init_36 : decode c_Mo_init 36 = .ok (.iconst 4, 1) := by decide +kernel
theorem d_Mo_init_37 : decode c_Mo_init 37 = .ok (.newarray .int, 2) := by decide +kernel
theorem d_Mo_init_39 : decode c_Mo_init 39 = .ok (.putfield 24, 3) := by decide +kernel
theorem d_Mo_init_42 : decode c_Mo_init 42 = .ok (.aload_n 0, 1) := by decide +kernel
theorem d_Mo_init_43 : decode c_Mo_init 43 = .ok (.sipush 2600, 3) := by decide +kernel
theorem d_Mo_init_46 : decode c_Mo_init 46 = .ok (.newarray .int, 2) := by decide +kernel
theorem d_Mo_init_48 : decode c_Mo_init 48 = .ok (.putfield 27, 3) := by decide +kernel
theorem d_Mo_init_51 : decode c_Mo_init 51 = .ok (.aload_n 0, 1) := by decide +kernel
theorem d_Mo_init_52 : decode c_Mo_init 52 = .ok (.bipush 80, 2) := by decide +kernel
theorem d_Mo_init_54 : decode c_Mo_init 54 = .ok (.newarray .int, 2) := by decide +kernel
theorem d_Mo_init_56 : decode c_Mo_init 56 = .ok (.putfield 30, 3) := by decide +kernel
theorem d_Mo_init_59 : decode c_Mo_init 59 = .ok (.aload_n 0, 1) := by decide +kernel
theorem d_Mo_init_60 : decode c_Mo_init 60 = .ok (.sipush 1200, 3) := by decide +kernel
theorem d_Mo_init_63 : decode c_Mo_init 63 = .ok (.newarray .int, 2) := by decide +kernel
theorem d_Mo_init_65 : decode c_Mo_init 65 = .ok (.putfield 33, 3) := by decide +kernel
theorem d_Mo_init_68 : decode c_Mo_init 68 = .ok (.aload_n 0, 1) := by decide +kernel
theorem d_Mo_init_69 : decode c_Mo_init 69 = .ok (.sipush 1200, 3) := by decide +kernel
theorem d_Mo_init_72 : decode c_Mo_init 72 = .ok (.newarray .int, 2) := by decide +kernel
theorem d_Mo_init_74 : decode c_Mo_init 74 = .ok (.putfield 36, 3) := by decide +kernel
theorem d_Mo_init_77 : decode c_Mo_init 77 = .ok (.return_, 1) := by decide +kernel
theorem d_Mo_thrown_0 : decode c_Mo_thrown 0 = .ok (.aload_n 0, 1) := by decide +kernel
theorem d_Mo_thrown_1 : decode c_Mo_thrown 1 = .ok (.getfield 39, 3) := by decide +kernel
theorem d_Mo_thrown_4 : decode c_Mo_thrown 4 = .ok (.ireturn, 1) := by decide +kernel
theorem d_Mo_in_0 : decode c_Mo_in 0 = .ok (.iload_n 0, 1) := by decide +kernel
theorem d_Mo_in_1 : decode c_Mo_in 1 = .ok (.iload_n 1, 1) := by decide +kernel
theorem d_Mo_in_2 : decode c_Mo_in 2 = .ok (.if_icmp .lt 12, 3) := by decide +kernel
theorem d_Mo_in_5 : decode c_Mo_in 5 = .ok (.iload_n 0, 1) := by decide +kernel
theorem d_Mo_in_6 : decode c_Mo_in 6 = .ok (.iload_n 2, 1) := by decide +kernel
theorem d_Mo_in_7 : decode c_Mo_in 7 = .ok (.if_icmp .gt 7, 3) := by decide +kernel
theorem d_Mo_in_10 : decode c_Mo_in 10 = .ok (.iconst 1, 1) := by decide +kernel
theorem d_Mo_in_11 : decode c_Mo_in 11 = .ok (.goto 4, 3) := by decide +kernel
theorem d_Mo_in_14 : decode c_Mo_in 14 = .ok (.iconst 0, 1) := by decide +kernel
theorem d_Mo_in_15 : decode c_Mo_in 15 = .ok (.ireturn, 1) := by decide +kernel
theorem d_Mo_fails_0 : decode c_Mo_fails 0 = .ok (.iload_n 1, 1) := by decide +kernel
theorem d_Mo_fails_1 : decode c_Mo_fails 1 = .ok (.ifCond .eq 15, 3) := by decide +kernel
theorem d_Mo_fails_4 : decode c_Mo_fails 4 = .ok (.aload_n 0, 1) := by decide +kernel
theorem d_Mo_fails_5 : decode c_Mo_fails 5 = .ok (.getfield 39, 3) := by decide +kernel
theorem d_Mo_fails_8 : decode c_Mo_fails 8 = .ok (.ifCond .ne 8, 3) := by decide +kernel
theorem d_Mo_fails_11 : decode c_Mo_fails 11 = .ok (.aload_n 0, 1) := by decide +kernel
theorem d_Mo_fails_12 : decode c_Mo_fails 12 = .ok (.iload_n 2, 1) := by decide +kernel
theorem d_Mo_fails_13 : decode c_Mo_fails 13 = .ok (.putfield 39, 3) := by decide +kernel
theorem d_Mo_fails_16 : decode c_Mo_fails 16 = .ok (.aload_n 0, 1) := by decide +kernel
theorem d_Mo_fails_17 : decode c_Mo_fails 17 = .ok (.getfield 39, 3) := by decide +kernel
theorem d_Mo_fails_20 : decode c_Mo_fails 20 = .ok (.ifCond .eq 7, 3) := by decide +kernel
theorem d_Mo_fails_23 : decode c_Mo_fails 23 = .ok (.iconst 1, 1) := by decide +kernel
theorem d_Mo_fails_24 : decode c_Mo_fails 24 = .ok (.goto 4, 3) := by decide +kernel
theorem d_Mo_fails_27 : decode c_Mo_fails 27 = .ok (.iconst 0, 1) := by decide +kernel
theorem d_Mo_fails_28 : decode c_Mo_fails 28 = .ok (.ireturn, 1) := by decide +kernel
theorem d_Mo_text_0 : decode c_Mo_text 0 = .ok (.aload_n 0, 1) := by decide +kernel
theorem d_Mo_text_1 : decode c_Mo_text 1 = .ok (.iconst 0, 1) := by decide +kernel
theorem d_Mo_text_2 : decode c_Mo_text 2 = .ok (.putfield 39, 3) := by decide +kernel
theorem d_Mo_text_5 : decode c_Mo_text 5 = .ok (.iconst 0, 1) := by decide +kernel
theorem d_Mo_text_6 : decode c_Mo_text 6 = .ok (.istore_n 3, 1) := by decide +kernel
theorem d_Mo_text_7 : decode c_Mo_text 7 = .ok (.iload_n 3, 1) := by decide +kernel
theorem d_Mo_text_8 : decode c_Mo_text 8 = .ok (.bipush 8, 2) := by decide +kernel
theorem d_Mo_text_10 : decode c_Mo_text 10 = .ok (.if_icmp .ge 27, 3) := by decide +kernel
theorem d_Mo_text_13 : decode c_Mo_text 13 = .ok (.lload_n 1, 1) := by decide +kernel
theorem d_Mo_text_14 : decode c_Mo_text 14 = .ok (.bipush 56, 2) := by decide +kernel
theorem d_Mo_text_16 : decode c_Mo_text 16 = .ok (.bipush 8, 2) := by decide +kernel
theorem d_Mo_text_18 : decode c_Mo_text 18 = .ok (.iload_n 3, 1) := by decide +kernel
theorem d_Mo_text_19 : decode c_Mo_text 19 = .ok (.imul, 1) := by decide +kernel
theorem d_Mo_text_20 : decode c_Mo_text 20 = .ok (.isub, 1) := by decide +kernel
theorem d_Mo_text_21 : decode c_Mo_text 21 = .ok (.lushr, 1) := by decide +kernel
theorem d_Mo_text_22 : decode c_Mo_text 22 = .ok (.ldc2_w 42, 3) := by decide +kernel
theorem d_Mo_text_25 : decode c_Mo_text 25 = .ok (.land, 1) := by decide +kernel
theorem d_Mo_text_26 : decode c_Mo_text 26 = .ok (.lconst 0, 1) := by decide +kernel
theorem d_Mo_text_27 : decode c_Mo_text 27 = .ok (.lcmp, 1) := by decide +kernel
theorem d_Mo_text_28 : decode c_Mo_text 28 = .ok (.ifCond .eq 9, 3) := by decide +kernel
theorem d_Mo_text_31 : decode c_Mo_text 31 = .ok (.iinc 3 1, 3) := by decide +kernel
theorem d_Mo_text_34 : decode c_Mo_text 34 = .ok (.goto (-27), 3) := by decide +kernel
theorem d_Mo_text_37 : decode c_Mo_text 37 = .ok (.aload_n 0, 1) := by decide +kernel
theorem d_Mo_text_38 : decode c_Mo_text 38 = .ok (.aload_n 0, 1) := by decide +kernel
theorem d_Mo_text_39 : decode c_Mo_text 39 = .ok (.getfield 44, 3) := by decide +kernel
theorem d_Mo_text_42 : decode c_Mo_text 42 = .ok (.iload_n 3, 1) := by decide +kernel
theorem d_Mo_text_43 : decode c_Mo_text 43 = .ok (.iadd, 1) := by decide +kernel
theorem d_Mo_text_44 : decode c_Mo_text 44 = .ok (.sipush 400, 3) := by decide +kernel
theorem d_Mo_text_47 : decode c_Mo_text 47 = .ok (.if_icmp .le 7, 3) := by decide +kernel
theorem d_Mo_text_50 : decode c_Mo_text 50 = .ok (.iconst 1, 1) := by decide +kernel
theorem d_Mo_text_51 : decode c_Mo_text 51 = .ok (.goto 4, 3) := by decide +kernel
theorem d_Mo_text_54 : decode c_Mo_text 54 = .ok (.iconst 0, 1) := by decide +kernel
theorem d_Mo_text_55 : decode c_Mo_text 55 = .ok (.iconst 1, 1) := by decide +kernel
theorem d_Mo_text_56 : decode c_Mo_text 56 = .ok (.invokevirtual 47, 3) := by decide +kernel
theorem d_Mo_text_59 : decode c_Mo_text 59 = .ok (.ifCond .eq 5, 3) := by decide +kernel
theorem d_Mo_text_62 : decode c_Mo_text 62 = .ok (.iconst 0, 1) := by decide +kernel
theorem d_Mo_text_63 : decode c_Mo_text 63 = .ok (.ireturn, 1) := by decide +kernel
theorem d_Mo_text_64 : decode c_Mo_text 64 = .ok (.iconst 0, 1) := by decide +kernel
theorem d_Mo_text_65 : decode c_Mo_text 65 = .ok (.istore 4, 2) := by decide +kernel
theorem d_Mo_text_67 : decode c_Mo_text 67 = .ok (.iload 4, 2) := by decide +kernel
theorem d_Mo_text_69 : decode c_Mo_text 69 = .ok (.iload_n 3, 1) := by decide +kernel
theorem d_Mo_text_70 : decode c_Mo_text 70 = .ok (.if_icmp .ge 40, 3) := by decide +kernel
theorem d_Mo_text_73 : decode c_Mo_text 73 = .ok (.aload_n 0, 1) := by decide +kernel
theorem d_Mo_text_74 : decode c_Mo_text 74 = .ok (.getfield 13, 3) := by decide +kernel
theorem d_Mo_text_77 : decode c_Mo_text 77 = .ok (.aload_n 0, 1) := by decide +kernel
theorem d_Mo_text_78 : decode c_Mo_text 78 = .ok (.dup, 1) := by decide +kernel
theorem d_Mo_text_79 : decode c_Mo_text 79 = .ok (.getfield 44, 3) := by decide +kernel
theorem d_Mo_text_82 : decode c_Mo_text 82 = .ok (.dup_x1, 1) := by decide +kernel
theorem d_Mo_text_83 : decode c_Mo_text 83 = .ok (.iconst 1, 1) := by decide +kernel
theorem d_Mo_text_84 : decode c_Mo_text 84 = .ok (.iadd, 1) := by decide +kernel
theorem d_Mo_text_85 : decode c_Mo_text 85 = .ok (.putfield 44, 3) := by decide +kernel
theorem d_Mo_text_88 : decode c_Mo_text 88 = .ok (.lload_n 1, 1) := by decide +kernel
theorem d_Mo_text_89 : decode c_Mo_text 89 = .ok (.bipush 56, 2) := by decide +kernel
theorem d_Mo_text_91 : decode c_Mo_text 91 = .ok (.bipush 8, 2) := by decide +kernel
theorem d_Mo_text_93 : decode c_Mo_text 93 = .ok (.iload 4, 2) := by decide +kernel
theorem d_Mo_text_95 : decode c_Mo_text 95 = .ok (.imul, 1) := by decide +kernel
theorem d_Mo_text_96 : decode c_Mo_text 96 = .ok (.isub, 1) := by decide +kernel
theorem d_Mo_text_97 : decode c_Mo_text 97 = .ok (.lushr, 1) := by decide +kernel
theorem d_Mo_text_98 : decode c_Mo_text 98 = .ok (.ldc2_w 42, 3) := by decide +kernel
theorem d_Mo_text_101 : decode c_Mo_text 101 = .ok (.land, 1) := by decide +kernel
theorem d_Mo_text_102 : decode c_Mo_text 102 = .ok (.l2i, 1) := by decide +kernel
theorem d_Mo_text_103 : decode c_Mo_text 103 = .ok (.iastore, 1) := by decide +kernel
theorem d_Mo_text_104 : decode c_Mo_text 104 = .ok (.iinc 4 1, 3) := by decide +kernel
theorem d_Mo_text_107 : decode c_Mo_text 107 = .ok (.goto (-40), 3) := by decide +kernel
theorem d_Mo_text_110 : decode c_Mo_text 110 = .ok (.aload_n 0, 1) := by decide +kernel
theorem d_Mo_text_111 : decode c_Mo_text 111 = .ok (.getfield 44, 3) := by decide +kernel
theorem d_Mo_text_114 : decode c_Mo_text 114 = .ok (.ireturn, 1) := by decide +kernel
theorem d_Mo_argument_0 : decode c_Mo_argument 0 = .ok (.aload_n 0, 1) := by decide +kernel
theorem d_Mo_argument_1 : decode c_Mo_argument 1 = .ok (.iconst 0, 1) := by decide +kernel
theorem d_Mo_argument_2 : decode c_Mo_argument 2 = .ok (.putfield 39, 3) := by decide +kernel
theorem d_Mo_argument_5 : decode c_Mo_argument 5 = .ok (.aload_n 0, 1) := by decide +kernel
theorem d_Mo_argument_6 : decode c_Mo_argument 6 = .ok (.aload_n 0, 1) := by decide +kernel
theorem d_Mo_argument_7 : decode c_Mo_argument 7 = .ok (.getfield 51, 3) := by decide +kernel
theorem d_Mo_argument_10 : decode c_Mo_argument 10 = .ok (.bipush 60, 2) := by decide +kernel
theorem d_Mo_argument_12 : decode c_Mo_argument 12 = .ok (.if_icmp .ne 7, 3) := by decide +kernel
theorem d_Mo_argument_15 : decode c_Mo_argument 15 = .ok (.iconst 1, 1) := by decide +kernel
theorem d_Mo_argument_16 : decode c_Mo_argument 16 = .ok (.goto 4, 3) := by decide +kernel
theorem d_Mo_argument_19 : decode c_Mo_argument 19 = .ok (.iconst 0, 1) := by decide +kernel
theorem d_Mo_argument_20 : decode c_Mo_argument 20 = .ok (.iconst 1, 1) := by decide +kernel
theorem d_Mo_argument_21 : decode c_Mo_argument 21 = .ok (.invokevirtual 47, 3) := by decide +kernel
theorem d_Mo_argument_24 : decode c_Mo_argument 24 = .ok (.ifCond .eq 5, 3) := by decide +kernel
theorem d_Mo_argument_27 : decode c_Mo_argument 27 = .ok (.iconst 0, 1) := by decide +kernel
theorem d_Mo_argument_28 : decode c_Mo_argument 28 = .ok (.ireturn, 1) := by decide +kernel
theorem d_Mo_argument_29 : decode c_Mo_argument 29 = .ok (.aload_n 0, 1) := by decide +kernel
theorem d_Mo_argument_30 : decode c_Mo_argument 30 = .ok (.getfield 20, 3) := by decide +kernel
theorem d_Mo_argument_33 : decode c_Mo_argument 33 = .ok (.aload_n 0, 1) := by decide +kernel
theorem d_Mo_argument_34 : decode c_Mo_argument 34 = .ok (.dup, 1) := by decide +kernel
theorem d_Mo_argument_35 : decode c_Mo_argument 35 = .ok (.getfield 51, 3) := by decide +kernel
theorem d_Mo_argument_38 : decode c_Mo_argument 38 = .ok (.dup_x1, 1) := by decide +kernel
theorem d_Mo_argument_39 : decode c_Mo_argument 39 = .ok (.iconst 1, 1) := by decide +kernel
theorem d_Mo_argument_40 : decode c_Mo_argument 40 = .ok (.iadd, 1) := by decide +kernel
theorem d_Mo_argument_41 : decode c_Mo_argument 41 = .ok (.putfield 51, 3) := by decide +kernel
theorem d_Mo_argument_44 : decode c_Mo_argument 44 = .ok (.lload_n 1, 1) := by decide +kernel
theorem d_Mo_argument_45 : decode c_Mo_argument 45 = .ok (.lastore, 1) := by decide +kernel
theorem d_Mo_argument_46 : decode c_Mo_argument 46 = .ok (.aload_n 0, 1) := by decide +kernel
theorem d_Mo_argument_47 : decode c_Mo_argument 47 = .ok (.getfield 51, 3) := by decide +kernel
theorem d_Mo_argument_50 : decode c_Mo_argument 50 = .ok (.ireturn, 1) := by decide +kernel
theorem d_Mo_clear_0 : decode c_Mo_clear 0 = .ok (.aload_n 0, 1) := by decide +kernel
theorem d_Mo_clear_1 : decode c_Mo_clear 1 = .ok (.iconst 0, 1) := by decide +kernel
theorem d_Mo_clear_2 : decode c_Mo_clear 2 = .ok (.putfield 39, 3) := by decide +kernel
theorem d_Mo_clear_5 : decode c_Mo_clear 5 = .ok (.aload_n 0, 1) := by decide +kernel
theorem d_Mo_clear_6 : decode c_Mo_clear 6 = .ok (.iconst 0, 1) := by decide +kernel
theorem d_Mo_clear_7 : decode c_Mo_clear 7 = .ok (.putfield 44, 3) := by decide +kernel
theorem d_Mo_clear_10 : decode c_Mo_clear 10 = .ok (.aload_n 0, 1) := by decide +kernel
theorem d_Mo_clear_11 : decode c_Mo_clear 11 = .ok (.iconst 0, 1) := by decide +kernel
theorem d_Mo_clear_12 : decode c_Mo_clear 12 = .ok (.putfield 51, 3) := by decide +kernel
theorem d_Mo_clear_15 : decode c_Mo_clear 15 = .ok (.return_, 1) := by decide +kernel
theorem d_Mo_c_0 : decode c_Mo_c 0 = .ok (.iload_n 1, 1) := by decide +kernel
theorem d_Mo_c_1 : decode c_Mo_c 1 = .ok (.aload_n 0, 1) := by decide +kernel
theorem d_Mo_c_2 : decode c_Mo_c 2 = .ok (.getfield 44, 3) := by decide +kernel
theorem d_Mo_c_5 : decode c_Mo_c 5 = .ok (.if_icmp .ge 12, 3) := by decide +kernel
theorem d_Mo_c_8 : decode c_Mo_c 8 = .ok (.aload_n 0, 1) := by decide +kernel
theorem d_Mo_c_9 : decode c_Mo_c 9 = .ok (.getfield 13, 3) := by decide +kernel
theorem d_Mo_c_12 : decode c_Mo_c 12 = .ok (.iload_n 1, 1) := by decide +kernel
theorem d_Mo_c_13 : decode c_Mo_c 13 = .ok (.iaload, 1) := by decide +kernel
theorem d_Mo_c_14 : decode c_Mo_c 14 = .ok (.goto 4, 3) := by decide +kernel
theorem d_Mo_c_17 : decode c_Mo_c 17 = .ok (.iconst (-1), 1) := by decide +kernel
theorem d_Mo_c_18 : decode c_Mo_c 18 = .ok (.ireturn, 1) := by decide +kernel
theorem d_Mo_bad_0 : decode c_Mo_bad 0 = .ok (.aload_n 0, 1) := by decide +kernel
theorem d_Mo_bad_1 : decode c_Mo_bad 1 = .ok (.getfield 7, 3) := by decide +kernel
theorem d_Mo_bad_4 : decode c_Mo_bad 4 = .ok (.ifCond .ge 8, 3) := by decide +kernel
theorem d_Mo_bad_7 : decode c_Mo_bad 7 = .ok (.aload_n 0, 1) := by decide +kernel
theorem d_Mo_bad_8 : decode c_Mo_bad 8 = .ok (.iload_n 1, 1) := by decide +kernel
theorem d_Mo_bad_9 : decode c_Mo_bad 9 = .ok (.putfield 7, 3) := by decide +kernel
theorem d_Mo_bad_12 : decode c_Mo_bad 12 = .ok (.iconst 0, 1) := by decide +kernel
theorem d_Mo_bad_13 : decode c_Mo_bad 13 = .ok (.ireturn, 1) := by decide +kernel
theorem d_Mo_number_0 : decode c_Mo_number 0 = .ok (.aload_n 0, 1) := by decide +kernel
theorem d_Mo_number_1 : decode c_Mo_number 1 = .ok (.getfield 54, 3) := by decide +kernel
theorem d_Mo_number_4 : decode c_Mo_number 4 = .ok (.istore_n 1, 1) := by decide +kernel
theorem d_Mo_number_5 : decode c_Mo_number 5 = .ok (.iconst 0, 1) := by decide +kernel
theorem d_Mo_number_6 : decode c_Mo_number 6 = .ok (.istore_n 2, 1) := by decide +kernel
theorem d_Mo_number_7 : decode c_Mo_number 7 = .ok (.aload_n 0, 1) := by decide +kernel
theorem d_Mo_number_8 : decode c_Mo_number 8 = .ok (.aload_n 0, 1) := by decide +kernel
theorem d_Mo_number_9 : decode c_Mo_number 9 = .ok (.getfield 54, 3) := by decide +kernel
theorem d_Mo_number_12 : decode c_Mo_number 12 = .ok (.invokevirtual 57, 3) := by decide +kernel
theorem d_Mo_number_15 : decode c_Mo_number 15 = .ok (.bipush 48, 2) := by decide +kernel
theorem d_Mo_number_17 : decode c_Mo_number 17 = .ok (.bipush 57, 2) := by decide +kernel
theorem d_Mo_number_19 : decode c_Mo_number 19 = .ok (.invokestatic 61, 3) := by decide +kernel
theorem d_Mo_number_22 : decode c_Mo_number 22 = .ok (.ifCond .eq 40, 3) := by decide +kernel
theorem d_Mo_number_25 : decode c_Mo_number 25 = .ok (.aload_n 0, 1) := by decide +kernel
theorem d_Mo_number_26 : decode c_Mo_number 26 = .ok (.getfield 54, 3) := by decide +kernel
theorem d_Mo_number_29 : decode c_Mo_number 29 = .ok (.iload_n 1, 1) := by decide +kernel
theorem d_Mo_number_30 : decode c_Mo_number 30 = .ok (.iconst 3, 1) := by decide +kernel
theorem d_Mo_number_31 : decode c_Mo_number 31 = .ok (.iadd, 1) := by decide +kernel
theorem d_Mo_number_32 : decode c_Mo_number 32 = .ok (.if_icmp .ge 30, 3) := by decide +kernel
theorem d_Mo_number_35 : decode c_Mo_number 35 = .ok (.bipush 10, 2) := by decide +kernel
theorem d_Mo_number_37 : decode c_Mo_number 37 = .ok (.iload_n 2, 1) := by decide +kernel
theorem d_Mo_number_38 : decode c_Mo_number 38 = .ok (.imul, 1) := by decide +kernel
theorem d_Mo_number_39 : decode c_Mo_number 39 = .ok (.aload_n 0, 1) := by decide +kernel
theorem d_Mo_number_40 : decode c_Mo_number 40 = .ok (.aload_n 0, 1) := by decide +kernel
theorem d_Mo_number_41 : decode c_Mo_number 41 = .ok (.dup, 1) := by decide +kernel
theorem d_Mo_number_42 : decode c_Mo_number 42 = .ok (.getfield 54, 3) := by decide +kernel
theorem d_Mo_number_45 : decode c_Mo_number 45 = .ok (.dup_x1, 1) := by decide +kernel
theorem d_Mo_number_46 : decode c_Mo_number 46 = .ok (.iconst 1, 1) := by decide +kernel
theorem d_Mo_number_47 : decode c_Mo_number 47 = .ok (.iadd, 1) := by decide +kernel
theorem d_Mo_number_48 : decode c_Mo_number 48 = .ok (.putfield 54, 3) := by decide +kernel
theorem d_Mo_number_51 : decode c_Mo_number 51 = .ok (.invokevirtual 57, 3) := by decide +kernel
theorem d_Mo_number_54 : decode c_Mo_number 54 = .ok (.iadd, 1) := by decide +kernel
theorem d_Mo_number_55 : decode c_Mo_number 55 = .ok (.bipush 48, 2) := by decide +kernel
theorem d_Mo_number_57 : decode c_Mo_number 57 = .ok (.isub, 1) := by decide +kernel
theorem d_Mo_number_58 : decode c_Mo_number 58 = .ok (.istore_n 2, 1) := by decide +kernel
theorem d_Mo_number_59 : decode c_Mo_number 59 = .ok (.goto (-52), 3) := by decide +kernel
theorem d_Mo_number_62 : decode c_Mo_number 62 = .ok (.iload_n 2, 1) := by decide +kernel
theorem d_Mo_number_63 : decode c_Mo_number 63 = .ok (.sipush 200, 3) := by decide +kernel
theorem d_Mo_number_66 : decode c_Mo_number 66 = .ok (.if_icmp .le 12, 3) := by decide +kernel
theorem d_Mo_number_69 : decode c_Mo_number 69 = .ok (.aload_n 0, 1) := by decide +kernel
theorem d_Mo_number_70 : decode c_Mo_number 70 = .ok (.iload_n 1, 1) := by decide +kernel
theorem d_Mo_number_71 : decode c_Mo_number 71 = .ok (.invokevirtual 65, 3) := by decide +kernel
theorem d_Mo_number_74 : decode c_Mo_number 74 = .ok (.pop, 1) := by decide +kernel
theorem d_Mo_number_75 : decode c_Mo_number 75 = .ok (.goto 40, 3) := by decide +kernel
theorem d_Mo_number_78 : decode c_Mo_number 78 = .ok (.aload_n 0, 1) := by decide +kernel
theorem d_Mo_number_79 : decode c_Mo_number 79 = .ok (.aload_n 0, 1) := by decide +kernel
theorem d_Mo_number_80 : decode c_Mo_number 80 = .ok (.getfield 54, 3) := by decide +kernel
theorem d_Mo_number_83 : decode c_Mo_number 83 = .ok (.invokevirtual 57, 3) := by decide +kernel
theorem d_Mo_number_86 : decode c_Mo_number 86 = .ok (.bipush 48, 2) := by decide +kernel
theorem d_Mo_number_88 : decode c_Mo_number 88 = .ok (.bipush 57, 2) := by decide +kernel
theorem d_Mo_number_90 : decode c_Mo_number 90 = .ok (.invokestatic 61, 3) := by decide +kernel
theorem d_Mo_number_93 : decode c_Mo_number 93 = .ok (.ifCond .eq 22, 3) := by decide +kernel
theorem d_Mo_number_96 : decode c_Mo_number 96 = .ok (.aload_n 0, 1) := by decide +kernel
theorem d_Mo_number_97 : decode c_Mo_number 97 = .ok (.getfield 54, 3) := by decide +kernel
theorem d_Mo_number_100 : decode c_Mo_number 100 = .ok (.iload_n 1, 1) := by decide +kernel
theorem d_Mo_number_101 : decode c_Mo_number 101 = .ok (.iconst 3, 1) := by decide +kernel
theorem d_Mo_number_102 : decode c_Mo_number 102 = .ok (.iadd, 1) := by decide +kernel
theorem d_Mo_number_103 : decode c_Mo_number 103 = .ok (.if_icmp .ne 12, 3) := by decide +kernel
theorem d_Mo_number_106 : decode c_Mo_number 106 = .ok (.aload_n 0, 1) := by decide +kernel
theorem d_Mo_number_107 : decode c_Mo_number 107 = .ok (.aload_n 0, 1) := by decide +kernel
theorem d_Mo_number_108 : decode c_Mo_number 108 = .ok (.getfield 54, 3) := by decide +kernel
theorem d_Mo_number_111 : decode c_Mo_number 111 = .ok (.invokevirtual 65, 3) := by decide +kernel
theorem d_Mo_number_114 : decode c_Mo_number 114 = .ok (.pop, 1) := by decide +kernel
theorem d_Mo_number_115 : decode c_Mo_number 115 = .ok (.iload_n 2, 1) := by decide +kernel
theorem d_Mo_number_116 : decode c_Mo_number 116 = .ok (.ireturn, 1) := by decide +kernel
theorem d_Mo_directive_0 : decode c_Mo_directive 0 = .ok (.aload_n 0, 1) := by decide +kernel
theorem d_Mo_directive_1 : decode c_Mo_directive 1 = .ok (.iconst 0, 1) := by decide +kernel
theorem d_Mo_directive_2 : decode c_Mo_directive 2 = .ok (.putfield 69, 3) := by decide +kernel
theorem d_Mo_directive_5 : decode c_Mo_directive 5 = .ok (.aload_n 0, 1) := by decide +kernel
theorem d_Mo_directive_6 : decode c_Mo_directive 6 = .ok (.iconst 0, 1) := by decide +kernel
theorem d_Mo_directive_7 : decode c_Mo_directive 7 = .ok (.putfield 73, 3) := by decide +kernel
theorem d_Mo_directive_10 : decode c_Mo_directive 10 = .ok (.aload_n 0, 1) := by decide +kernel
theorem d_Mo_directive_11 : decode c_Mo_directive 11 = .ok (.iconst 0, 1) := by decide +kernel
theorem d_Mo_directive_12 : decode c_Mo_directive 12 = .ok (.putfield 76, 3) := by decide +kernel
theorem d_Mo_directive_15 : decode c_Mo_directive 15 = .ok (.aload_n 0, 1) := by decide +kernel
theorem d_Mo_directive_16 : decode c_Mo_directive 16 = .ok (.iconst 0, 1) := by decide +kernel
theorem d_Mo_directive_17 : decode c_Mo_directive 17 = .ok (.putfield 79, 3) := by decide +kernel
theorem d_Mo_directive_20 : decode c_Mo_directive 20 = .ok (.aload_n 0, 1) := by decide +kernel
theorem d_Mo_directive_21 : decode c_Mo_directive 21 = .ok (.iconst 0, 1) := by decide +kernel
theorem d_Mo_directive_22 : decode c_Mo_directive 22 = .ok (.putfield 82, 3) := by decide +kernel
theorem d_Mo_directive_25 : decode c_Mo_directive 25 = .ok (.aload_n 0, 1) := by decide +kernel
theorem d_Mo_directive_26 : decode c_Mo_directive 26 = .ok (.iconst 0, 1) := by decide +kernel
theorem d_Mo_directive_27 : decode c_Mo_directive 27 = .ok (.putfield 85, 3) := by decide +kernel
theorem d_Mo_directive_30 : decode c_Mo_directive 30 = .ok (.aload_n 0, 1) := by decide +kernel
theorem d_Mo_directive_31 : decode c_Mo_directive 31 = .ok (.iconst 0, 1) := by decide +kernel
theorem d_Mo_directive_32 : decode c_Mo_directive 32 = .ok (.putfield 88, 3) := by decide +kernel
theorem d_Mo_directive_35 : decode c_Mo_directive 35 = .ok (.aload_n 0, 1) := by decide +kernel
theorem d_Mo_directive_36 : decode c_Mo_directive 36 = .ok (.iconst 0, 1) := by decide +kernel
theorem d_Mo_directive_37 : decode c_Mo_directive 37 = .ok (.putfield 91, 3) := by decide +kernel
theorem d_Mo_directive_40 : decode c_Mo_directive 40 = .ok (.aload_n 0, 1) := by decide +kernel
theorem d_Mo_directive_41 : decode c_Mo_directive 41 = .ok (.iconst (-1), 1) := by decide +kernel
theorem d_Mo_directive_42 : decode c_Mo_directive 42 = .ok (.putfield 94, 3) := by decide +kernel
theorem d_Mo_directive_45 : decode c_Mo_directive 45 = .ok (.aload_n 0, 1) := by decide +kernel
theorem d_Mo_directive_46 : decode c_Mo_directive 46 = .ok (.aload_n 0, 1) := by decide +kernel
theorem d_Mo_directive_47 : decode c_Mo_directive 47 = .ok (.getfield 54, 3) := by decide +kernel
theorem d_Mo_directive_50 : decode c_Mo_directive 50 = .ok (.invokevirtual 57, 3) := by decide +kernel
theorem d_Mo_directive_53 : decode c_Mo_directive 53 = .ok (.bipush 45, 2) := by decide +kernel
theorem d_Mo_directive_55 : decode c_Mo_directive 55 = .ok (.if_icmp .eq 55, 3) := by decide +kernel
theorem d_Mo_directive_58 : decode c_Mo_directive 58 = .ok (.aload_n 0, 1) := by decide +kernel
theorem d_Mo_directive_59 : decode c_Mo_directive 59 = .ok (.aload_n 0, 1) := by decide +kernel
theorem d_Mo_directive_60 : decode c_Mo_directive 60 = .ok (.getfield 54, 3) := by decide +kernel
theorem d_Mo_directive_63 : decode c_Mo_directive 63 = .ok (.invokevirtual 57, 3) := by decide +kernel
theorem d_Mo_directive_66 : decode c_Mo_directive 66 = .ok (.bipush 43, 2) := by decide +kernel
theorem d_Mo_directive_68 : decode c_Mo_directive 68 = .ok (.if_icmp .eq 42, 3) := by decide +kernel
theorem d_Mo_directive_71 : decode c_Mo_directive 71 = .ok (.aload_n 0, 1) := by decide +kernel
theorem d_Mo_directive_72 : decode c_Mo_directive 72 = .ok (.aload_n 0, 1) := by decide +kernel
theorem d_Mo_directive_73 : decode c_Mo_directive 73 = .ok (.getfield 54, 3) := by decide +kernel
theorem d_Mo_directive_76 : decode c_Mo_directive 76 = .ok (.invokevirtual 57, 3) := by decide +kernel
theorem d_Mo_directive_79 : decode c_Mo_directive 79 = .ok (.bipush 32, 2) := by decide +kernel
theorem d_Mo_directive_81 : decode c_Mo_directive 81 = .ok (.if_icmp .eq 29, 3) := by decide +kernel
theorem d_Mo_directive_84 : decode c_Mo_directive 84 = .ok (.aload_n 0, 1) := by decide +kernel
theorem d_Mo_directive_85 : decode c_Mo_directive 85 = .ok (.aload_n 0, 1) := by decide +kernel
theorem d_Mo_directive_86 : decode c_Mo_directive 86 = .ok (.getfield 54, 3) := by decide +kernel
theorem d_Mo_directive_89 : decode c_Mo_directive 89 = .ok (.invokevirtual 57, 3) := by decide +kernel
theorem d_Mo_directive_92 : decode c_Mo_directive 92 = .ok (.bipush 35, 2) := by decide +kernel
theorem d_Mo_directive_94 : decode c_Mo_directive 94 = .ok (.if_icmp .eq 16, 3) := by decide +kernel
theorem d_Mo_directive_97 : decode c_Mo_directive 97 = .ok (.aload_n 0, 1) := by decide +kernel
theorem d_Mo_directive_98 : decode c_Mo_directive 98 = .ok (.aload_n 0, 1) := by decide +kernel
theorem d_Mo_directive_99 : decode c_Mo_directive 99 = .ok (.getfield 54, 3) := by decide +kernel
theorem d_Mo_directive_102 : decode c_Mo_directive 102 = .ok (.invokevirtual 57, 3) := by decide +kernel
theorem d_Mo_directive_105 : decode c_Mo_directive 105 = .ok (.bipush 48, 2) := by decide +kernel
theorem d_Mo_directive_107 : decode c_Mo_directive 107 = .ok (.if_icmp .ne 105, 3) := by decide +kernel
theorem d_Mo_directive_110 : decode c_Mo_directive 110 = .ok (.aload_n 0, 1) := by decide +kernel
theorem d_Mo_directive_111 : decode c_Mo_directive 111 = .ok (.aload_n 0, 1) := by decide +kernel
theorem d_Mo_directive_112 : decode c_Mo_directive 112 = .ok (.getfield 54, 3) := by decide +kernel
theorem d_Mo_directive_115 : decode c_Mo_directive 115 = .ok (.invokevirtual 57, 3) := by decide +kernel
theorem d_Mo_directive_118 : decode c_Mo_directive 118 = .ok (.bipush 45, 2) := by decide +kernel
theorem d_Mo_directive_120 : decode c_Mo_directive 120 = .ok (.if_icmp .ne 11, 3) := by decide +kernel
theorem d_Mo_directive_123 : decode c_Mo_directive 123 = .ok (.aload_n 0, 1) := by decide +kernel
theorem d_Mo_directive_124 : decode c_Mo_directive 124 = .ok (.iconst 1, 1) := by decide +kernel
theorem d_Mo_directive_125 : decode c_Mo_directive 125 = .ok (.putfield 69, 3) := by decide +kernel
theorem d_Mo_directive_128 : decode c_Mo_directive 128 = .ok (.goto 71, 3) := by decide +kernel
theorem d_Mo_directive_131 : decode c_Mo_directive 131 = .ok (.aload_n 0, 1) := by decide +kernel
theorem d_Mo_directive_132 : decode c_Mo_directive 132 = .ok (.aload_n 0, 1) := by decide +kernel
theorem d_Mo_directive_133 : decode c_Mo_directive 133 = .ok (.getfield 54, 3) := by decide +kernel
theorem d_Mo_directive_136 : decode c_Mo_directive 136 = .ok (.invokevirtual 57, 3) := by decide +kernel
theorem d_Mo_directive_139 : decode c_Mo_directive 139 = .ok (.bipush 43, 2) := by decide +kernel
theorem d_Mo_directive_141 : decode c_Mo_directive 141 = .ok (.if_icmp .ne 11, 3) := by decide +kernel
theorem d_Mo_directive_144 : decode c_Mo_directive 144 = .ok (.aload_n 0, 1) := by decide +kernel
theorem d_Mo_directive_145 : decode c_Mo_directive 145 = .ok (.iconst 1, 1) := by decide +kernel
theorem d_Mo_directive_146 : decode c_Mo_directive 146 = .ok (.putfield 73, 3) := by decide +kernel
theorem d_Mo_directive_149 : decode c_Mo_directive 149 = .ok (.goto 50, 3) := by decide +kernel
theorem d_Mo_directive_152 : decode c_Mo_directive 152 = .ok (.aload_n 0, 1) := by decide +kernel
theorem d_Mo_directive_153 : decode c_Mo_directive 153 = .ok (.aload_n 0, 1) := by decide +kernel
theorem d_Mo_directive_154 : decode c_Mo_directive 154 = .ok (.getfield 54, 3) := by decide +kernel
theorem d_Mo_directive_157 : decode c_Mo_directive 157 = .ok (.invokevirtual 57, 3) := by decide +kernel
theorem d_Mo_directive_160 : decode c_Mo_directive 160 = .ok (.bipush 32, 2) := by decide +kernel
theorem d_Mo_directive_162 : decode c_Mo_directive 162 = .ok (.if_icmp .ne 11, 3) := by decide +kernel
theorem d_Mo_directive_165 : decode c_Mo_directive 165 = .ok (.aload_n 0, 1) := by decide +kernel
theorem d_Mo_directive_166 : decode c_Mo_directive 166 = .ok (.iconst 1, 1) := by decide +kernel
theorem d_Mo_directive_167 : decode c_Mo_directive 167 = .ok (.putfield 76, 3) := by decide +kernel
theorem d_Mo_directive_170 : decode c_Mo_directive 170 = .ok (.goto 29, 3) := by decide +kernel
theorem d_Mo_directive_173 : decode c_Mo_directive 173 = .ok (.aload_n 0, 1) := by decide +kernel
theorem d_Mo_directive_174 : decode c_Mo_directive 174 = .ok (.aload_n 0, 1) := by decide +kernel
theorem d_Mo_directive_175 : decode c_Mo_directive 175 = .ok (.getfield 54, 3) := by decide +kernel
theorem d_Mo_directive_178 : decode c_Mo_directive 178 = .ok (.invokevirtual 57, 3) := by decide +kernel
theorem d_Mo_directive_181 : decode c_Mo_directive 181 = .ok (.bipush 35, 2) := by decide +kernel
theorem d_Mo_directive_183 : decode c_Mo_directive 183 = .ok (.if_icmp .ne 11, 3) := by decide +kernel
theorem d_Mo_directive_186 : decode c_Mo_directive 186 = .ok (.aload_n 0, 1) := by decide +kernel
theorem d_Mo_directive_187 : decode c_Mo_directive 187 = .ok (.iconst 1, 1) := by decide +kernel
theorem d_Mo_directive_188 : decode c_Mo_directive 188 = .ok (.putfield 79, 3) := by decide +kernel
theorem d_Mo_directive_191 : decode c_Mo_directive 191 = .ok (.goto 8, 3) := by decide +kernel
theorem d_Mo_directive_194 : decode c_Mo_directive 194 = .ok (.aload_n 0, 1) := by decide +kernel
theorem d_Mo_directive_195 : decode c_Mo_directive 195 = .ok (.iconst 1, 1) := by decide +kernel
theorem d_Mo_directive_196 : decode c_Mo_directive 196 = .ok (.putfield 82, 3) := by decide +kernel
theorem d_Mo_directive_199 : decode c_Mo_directive 199 = .ok (.aload_n 0, 1) := by decide +kernel
theorem d_Mo_directive_200 : decode c_Mo_directive 200 = .ok (.dup, 1) := by decide +kernel
theorem d_Mo_directive_201 : decode c_Mo_directive 201 = .ok (.getfield 54, 3) := by decide +kernel
theorem d_Mo_directive_204 : decode c_Mo_directive 204 = .ok (.iconst 1, 1) := by decide +kernel
theorem d_Mo_directive_205 : decode c_Mo_directive 205 = .ok (.iadd, 1) := by decide +kernel
theorem d_Mo_directive_206 : decode c_Mo_directive 206 = .ok (.putfield 54, 3) := by decide +kernel
theorem d_Mo_directive_209 : decode c_Mo_directive 209 = .ok (.goto (-164), 3) := by decide +kernel
theorem d_Mo_directive_212 : decode c_Mo_directive 212 = .ok (.aload_n 0, 1) := by decide +kernel
theorem d_Mo_directive_213 : decode c_Mo_directive 213 = .ok (.aload_n 0, 1) := by decide +kernel
theorem d_Mo_directive_214 : decode c_Mo_directive 214 = .ok (.getfield 54, 3) := by decide +kernel
theorem d_Mo_directive_217 : decode c_Mo_directive 217 = .ok (.invokevirtual 57, 3) := by decide +kernel
theorem d_Mo_directive_220 : decode c_Mo_directive 220 = .ok (.bipush 42, 2) := by decide +kernel
theorem d_Mo_directive_222 : decode c_Mo_directive 222 = .ok (.if_icmp .ne 21, 3) := by decide +kernel
theorem d_Mo_directive_225 : decode c_Mo_directive 225 = .ok (.aload_n 0, 1) := by decide +kernel
theorem d_Mo_directive_226 : decode c_Mo_directive 226 = .ok (.iconst 1, 1) := by decide +kernel
theorem d_Mo_directive_227 : decode c_Mo_directive 227 = .ok (.putfield 85, 3) := by decide +kernel
theorem d_Mo_directive_230 : decode c_Mo_directive 230 = .ok (.aload_n 0, 1) := by decide +kernel
theorem d_Mo_directive_231 : decode c_Mo_directive 231 = .ok (.dup, 1) := by decide +kernel
theorem d_Mo_directive_232 : decode c_Mo_directive 232 = .ok (.getfield 54, 3) := by decide +kernel
theorem d_Mo_directive_235 : decode c_Mo_directive 235 = .ok (.iconst 1, 1) := by decide +kernel
theorem d_Mo_directive_236 : decode c_Mo_directive 236 = .ok (.iadd, 1) := by decide +kernel
theorem d_Mo_directive_237 : decode c_Mo_directive 237 = .ok (.putfield 54, 3) := by decide +kernel
theorem d_Mo_directive_240 : decode c_Mo_directive 240 = .ok (.goto 29, 3) := by decide +kernel
theorem d_Mo_directive_243 : decode c_Mo_directive 243 = .ok (.aload_n 0, 1) := by decide +kernel
theorem d_Mo_directive_244 : decode c_Mo_directive 244 = .ok (.aload_n 0, 1) := by decide +kernel
theorem d_Mo_directive_245 : decode c_Mo_directive 245 = .ok (.getfield 54, 3) := by decide +kernel
theorem d_Mo_directive_248 : decode c_Mo_directive 248 = .ok (.invokevirtual 57, 3) := by decide +kernel
theorem d_Mo_directive_251 : decode c_Mo_directive 251 = .ok (.bipush 49, 2) := by decide +kernel
theorem d_Mo_directive_253 : decode c_Mo_directive 253 = .ok (.bipush 57, 2) := by decide +kernel
theorem d_Mo_directive_255 : decode c_Mo_directive 255 = .ok (.invokestatic 61, 3) := by decide +kernel
theorem d_Mo_directive_258 : decode c_Mo_directive 258 = .ok (.ifCond .eq 11, 3) := by decide +kernel
theorem d_Mo_directive_261 : decode c_Mo_directive 261 = .ok (.aload_n 0, 1) := by decide +kernel
theorem d_Mo_directive_262 : decode c_Mo_directive 262 = .ok (.aload_n 0, 1) := by decide +kernel
theorem d_Mo_directive_263 : decode c_Mo_directive 263 = .ok (.invokevirtual 97, 3) := by decide +kernel
theorem d_Mo_directive_266 : decode c_Mo_directive 266 = .ok (.putfield 91, 3) := by decide +kernel
theorem d_Mo_directive_269 : decode c_Mo_directive 269 = .ok (.aload_n 0, 1) := by decide +kernel
theorem d_Mo_directive_270 : decode c_Mo_directive 270 = .ok (.getfield 7, 3) := by decide +kernel
theorem d_Mo_directive_273 : decode c_Mo_directive 273 = .ok (.ifCond .ge 65, 3) := by decide +kernel
theorem d_Mo_directive_276 : decode c_Mo_directive 276 = .ok (.aload_n 0, 1) := by decide +kernel
theorem d_Mo_directive_277 : decode c_Mo_directive 277 = .ok (.aload_n 0, 1) := by decide +kernel
theorem d_Mo_directive_278 : decode c_Mo_directive 278 = .ok (.getfield 54, 3) := by decide +kernel
theorem d_Mo_directive_281 : decode c_Mo_directive 281 = .ok (.invokevirtual 57, 3) := by decide +kernel
theorem d_Mo_directive_284 : decode c_Mo_directive 284 = .ok (.bipush 46, 2) := by decide +kernel
theorem d_Mo_directive_286 : decode c_Mo_directive 286 = .ok (.if_icmp .ne 52, 3) := by decide +kernel
theorem d_Mo_directive_289 : decode c_Mo_directive 289 = .ok (.aload_n 0, 1) := by decide +kernel
theorem d_Mo_directive_290 : decode c_Mo_directive 290 = .ok (.dup, 1) := by decide +kernel
theorem d_Mo_directive_291 : decode c_Mo_directive 291 = .ok (.getfield 54, 3) := by decide +kernel
theorem d_Mo_directive_294 : decode c_Mo_directive 294 = .ok (.iconst 1, 1) := by decide +kernel
theorem d_Mo_directive_295 : decode c_Mo_directive 295 = .ok (.iadd, 1) := by decide +kernel
theorem d_Mo_directive_296 : decode c_Mo_directive 296 = .ok (.putfield 54, 3) := by decide +kernel
theorem d_Mo_directive_299 : decode c_Mo_directive 299 = .ok (.aload_n 0, 1) := by decide +kernel
theorem d_Mo_directive_300 : decode c_Mo_directive 300 = .ok (.aload_n 0, 1) := by decide +kernel
theorem d_Mo_directive_301 : decode c_Mo_directive 301 = .ok (.getfield 54, 3) := by decide +kernel
theorem d_Mo_directive_304 : decode c_Mo_directive 304 = .ok (.invokevirtual 57, 3) := by decide +kernel
theorem d_Mo_directive_307 : decode c_Mo_directive 307 = .ok (.bipush 42, 2) := by decide +kernel
theorem d_Mo_directive_309 : decode c_Mo_directive 309 = .ok (.if_icmp .ne 21, 3) := by decide +kernel
theorem d_Mo_directive_312 : decode c_Mo_directive 312 = .ok (.aload_n 0, 1) := by decide +kernel
theorem d_Mo_directive_313 : decode c_Mo_directive 313 = .ok (.iconst 1, 1) := by decide +kernel
theorem d_Mo_directive_314 : decode c_Mo_directive 314 = .ok (.putfield 88, 3) := by decide +kernel
theorem d_Mo_directive_317 : decode c_Mo_directive 317 = .ok (.aload_n 0, 1) := by decide +kernel
theorem d_Mo_directive_318 : decode c_Mo_directive 318 = .ok (.dup, 1) := by decide +kernel
theorem d_Mo_directive_319 : decode c_Mo_directive 319 = .ok (.getfield 54, 3) := by decide +kernel
theorem d_Mo_directive_322 : decode c_Mo_directive 322 = .ok (.iconst 1, 1) := by decide +kernel
theorem d_Mo_directive_323 : decode c_Mo_directive 323 = .ok (.iadd, 1) := by decide +kernel
theorem d_Mo_directive_324 : decode c_Mo_directive 324 = .ok (.putfield 54, 3) := by decide +kernel
theorem d_Mo_directive_327 : decode c_Mo_directive 327 = .ok (.goto 11, 3) := by decide +kernel
theorem d_Mo_directive_330 : decode c_Mo_directive 330 = .ok (.aload_n 0, 1) := by decide +kernel
theorem d_Mo_directive_331 : decode c_Mo_directive 331 = .ok (.aload_n 0, 1) := by decide +kernel
theorem d_Mo_directive_332 : decode c_Mo_directive 332 = .ok (.invokevirtual 97, 3) := by decide +kernel
theorem d_Mo_directive_335 : decode c_Mo_directive 335 = .ok (.putfield 94, 3) := by decide +kernel
theorem d_Mo_directive_338 : decode c_Mo_directive 338 = .ok (.aload_n 0, 1) := by decide +kernel
theorem d_Mo_directive_339 : decode c_Mo_directive 339 = .ok (.getfield 7, 3) := by decide +kernel
theorem d_Mo_directive_342 : decode c_Mo_directive 342 = .ok (.ifCond .lt 5, 3) := by decide +kernel
theorem d_Mo_directive_345 : decode c_Mo_directive 345 = .ok (.iconst 0, 1) := by decide +kernel
theorem d_Mo_directive_346 : decode c_Mo_directive 346 = .ok (.ireturn, 1) := by decide +kernel
theorem d_Mo_directive_347 : decode c_Mo_directive 347 = .ok (.ldc 101, 2) := by decide +kernel
theorem d_Mo_directive_349 : decode c_Mo_directive 349 = .ok (.astore_n 1, 1) := by decide +kernel
theorem d_Mo_directive_350 : decode c_Mo_directive 350 = .ok (.iconst 0, 1) := by decide +kernel
theorem d_Mo_directive_351 : decode c_Mo_directive 351 = .ok (.istore_n 2, 1) := by decide +kernel
theorem d_Mo_directive_352 : decode c_Mo_directive 352 = .ok (.iload_n 2, 1) := by decide +kernel
theorem d_Mo_directive_353 : decode c_Mo_directive 353 = .ok (.aload_n 1, 1) := by decide +kernel
theorem d_Mo_directive_354 : decode c_Mo_directive 354 = .ok (.invokevirtual 103, 3) := by decide +kernel
theorem d_Mo_directive_357 : decode c_Mo_directive 357 = .ok (.if_icmp .ge 27, 3) := by decide +kernel
theorem d_Mo_directive_360 : decode c_Mo_directive 360 = .ok (.aload_n 0, 1) := by decide +kernel
theorem d_Mo_directive_361 : decode c_Mo_directive 361 = .ok (.aload_n 0, 1) := by decide +kernel
theorem d_Mo_directive_362 : decode c_Mo_directive 362 = .ok (.getfield 54, 3) := by decide +kernel
theorem d_Mo_directive_365 : decode c_Mo_directive 365 = .ok (.invokevirtual 57, 3) := by decide +kernel
theorem d_Mo_directive_368 : decode c_Mo_directive 368 = .ok (.aload_n 1, 1) := by decide +kernel
theorem d_Mo_directive_369 : decode c_Mo_directive 369 = .ok (.iload_n 2, 1) := by decide +kernel
theorem d_Mo_directive_370 : decode c_Mo_directive 370 = .ok (.invokevirtual 108, 3) := by decide +kernel
theorem d_Mo_directive_373 : decode c_Mo_directive 373 = .ok (.if_icmp .ne 5, 3) := by decide +kernel
theorem d_Mo_directive_376 : decode c_Mo_directive 376 = .ok (.iconst 1, 1) := by decide +kernel
theorem d_Mo_directive_377 : decode c_Mo_directive 377 = .ok (.ireturn, 1) := by decide +kernel
theorem d_Mo_directive_378 : decode c_Mo_directive 378 = .ok (.iinc 2 1, 3) := by decide +kernel
theorem d_Mo_directive_381 : decode c_Mo_directive 381 = .ok (.goto (-29), 3) := by decide +kernel
theorem d_Mo_directive_384 : decode c_Mo_directive 384 = .ok (.aload_n 0, 1) := by decide +kernel
theorem d_Mo_directive_385 : decode c_Mo_directive 385 = .ok (.aload_n 0, 1) := by decide +kernel
theorem d_Mo_directive_386 : decode c_Mo_directive 386 = .ok (.getfield 54, 3) := by decide +kernel
theorem d_Mo_directive_389 : decode c_Mo_directive 389 = .ok (.invokevirtual 65, 3) := by decide +kernel
theorem d_Mo_directive_392 : decode c_Mo_directive 392 = .ok (.ireturn, 1) := by decide +kernel
theorem d_Mo_next_0 : decode c_Mo_next 0 = .ok (.aload_n 0, 1) := by decide +kernel
theorem d_Mo_next_1 : decode c_Mo_next 1 = .ok (.getfield 112, 3) := by decide +kernel
theorem d_Mo_next_4 : decode c_Mo_next 4 = .ok (.aload_n 0, 1) := by decide +kernel
theorem d_Mo_next_5 : decode c_Mo_next 5 = .ok (.getfield 51, 3) := by decide +kernel
theorem d_Mo_next_8 : decode c_Mo_next 8 = .ok (.if_icmp .ge 22, 3) := by decide +kernel
theorem d_Mo_next_11 : decode c_Mo_next 11 = .ok (.aload_n 0, 1) := by decide +kernel
theorem d_Mo_next_12 : decode c_Mo_next 12 = .ok (.getfield 20, 3) := by decide +kernel
theorem d_Mo_next_15 : decode c_Mo_next 15 = .ok (.aload_n 0, 1) := by decide +kernel
theorem d_Mo_next_16 : decode c_Mo_next 16 = .ok (.dup, 1) := by decide +kernel
theorem d_Mo_next_17 : decode c_Mo_next 17 = .ok (.getfield 112, 3) := by decide +kernel
theorem d_Mo_next_20 : decode c_Mo_next 20 = .ok (.dup_x1, 1) := by decide +kernel
theorem d_Mo_next_21 : decode c_Mo_next 21 = .ok (.iconst 1, 1) := by decide +kernel
theorem d_Mo_next_22 : decode c_Mo_next 22 = .ok (.iadd, 1) := by decide +kernel
theorem d_Mo_next_23 : decode c_Mo_next 23 = .ok (.putfield 112, 3) := by decide +kernel
theorem d_Mo_next_26 : decode c_Mo_next 26 = .ok (.laload, 1) := by decide +kernel
theorem d_Mo_next_27 : decode c_Mo_next 27 = .ok (.goto 4, 3) := by decide +kernel
theorem d_Mo_next_30 : decode c_Mo_next 30 = .ok (.lconst 0, 1) := by decide +kernel
theorem d_Mo_next_31 : decode c_Mo_next 31 = .ok (.lreturn, 1) := by decide +kernel
theorem d_Mo_limited_0 : decode c_Mo_limited 0 = .ok (.lload_n 0, 1) := by decide +kernel
theorem d_Mo_limited_1 : decode c_Mo_limited 1 = .ok (.ldc2_w 115, 3) := by decide +kernel
theorem d_Mo_limited_4 : decode c_Mo_limited 4 = .ok (.lcmp, 1) := by decide +kernel
theorem d_Mo_limited_5 : decode c_Mo_limited 5 = .ok (.ifCond .ge 9, 3) := by decide +kernel
theorem d_Mo_limited_8 : decode c_Mo_limited 8 = .ok (.sipush (-200), 3) := by decide +kernel
theorem d_Mo_limited_11 : decode c_Mo_limited 11 = .ok (.goto 19, 3) := by decide +kernel
theorem d_Mo_limited_14 : decode c_Mo_limited 14 = .ok (.lload_n 0, 1) := by decide +kernel
theorem d_Mo_limited_15 : decode c_Mo_limited 15 = .ok (.ldc2_w 117, 3) := by decide +kernel
theorem d_Mo_limited_18 : decode c_Mo_limited 18 = .ok (.lcmp, 1) := by decide +kernel
theorem d_Mo_limited_19 : decode c_Mo_limited 19 = .ok (.ifCond .le 9, 3) := by decide +kernel
theorem d_Mo_limited_22 : decode c_Mo_limited 22 = .ok (.sipush 200, 3) := by decide +kernel
theorem d_Mo_limited_25 : decode c_Mo_limited 25 = .ok (.goto 5, 3) := by decide +kernel
theorem d_Mo_limited_28 : decode c_Mo_limited 28 = .ok (.lload_n 0, 1) := by decide +kernel
theorem d_Mo_limited_29 : decode c_Mo_limited 29 = .ok (.l2i, 1) := by decide +kernel
theorem d_Mo_limited_30 : decode c_Mo_limited 30 = .ok (.ireturn, 1) := by decide +kernel
theorem d_Mo_run_0 : decode c_Mo_run 0 = .ok (.aload_n 0, 1) := by decide +kernel
theorem d_Mo_run_1 : decode c_Mo_run 1 = .ok (.iconst 0, 1) := by decide +kernel
theorem d_Mo_run_2 : decode c_Mo_run 2 = .ok (.putfield 39, 3) := by decide +kernel
theorem d_Mo_run_5 : decode c_Mo_run 5 = .ok (.aload_n 0, 1) := by decide +kernel
theorem d_Mo_run_6 : decode c_Mo_run 6 = .ok (.iconst 0, 1) := by decide +kernel
theorem d_Mo_run_7 : decode c_Mo_run 7 = .ok (.putfield 119, 3) := by decide +kernel
theorem d_Mo_run_10 : decode c_Mo_run 10 = .ok (.aload_n 0, 1) := by decide +kernel
theorem d_Mo_run_11 : decode c_Mo_run 11 = .ok (.iconst 0, 1) := by decide +kernel
theorem d_Mo_run_12 : decode c_Mo_run 12 = .ok (.putfield 112, 3) := by decide +kernel
theorem d_Mo_run_15 : decode c_Mo_run 15 = .ok (.aload_n 0, 1) := by decide +kernel
theorem d_Mo_run_16 : decode c_Mo_run 16 = .ok (.iconst 0, 1) := by decide +kernel
theorem d_Mo_run_17 : decode c_Mo_run 17 = .ok (.putfield 122, 3) := by decide +kernel
theorem d_Mo_run_20 : decode c_Mo_run 20 = .ok (.aload_n 0, 1) := by decide +kernel
theorem d_Mo_run_21 : decode c_Mo_run 21 = .ok (.iconst (-1), 1) := by decide +kernel
theorem d_Mo_run_22 : decode c_Mo_run 22 = .ok (.putfield 7, 3) := by decide +kernel
theorem d_Mo_run_25 : decode c_Mo_run 25 = .ok (.iconst 0, 1) := by decide +kernel
theorem d_Mo_run_26 : decode c_Mo_run 26 = .ok (.istore_n 1, 1) := by decide +kernel
theorem d_Mo_run_27 : decode c_Mo_run 27 = .ok (.iload_n 1, 1) := by decide +kernel
theorem d_Mo_run_28 : decode c_Mo_run 28 = .ok (.aload_n 0, 1) := by decide +kernel
theorem d_Mo_run_29 : decode c_Mo_run 29 = .ok (.getfield 44, 3) := by decide +kernel
theorem d_Mo_run_32 : decode c_Mo_run 32 = .ok (.if_icmp .ge 31, 3) := by decide +kernel
theorem d_Mo_run_35 : decode c_Mo_run 35 = .ok (.aload_n 0, 1) := by decide +kernel
theorem d_Mo_run_36 : decode c_Mo_run 36 = .ok (.getfield 13, 3) := by decide +kernel
theorem d_Mo_run_39 : decode c_Mo_run 39 = .ok (.iload_n 1, 1) := by decide +kernel
theorem d_Mo_run_40 : decode c_Mo_run 40 = .ok (.iaload, 1) := by decide +kernel
theorem d_Mo_run_41 : decode c_Mo_run 41 = .ok (.bipush 32, 2) := by decide +kernel
theorem d_Mo_run_43 : decode c_Mo_run 43 = .ok (.bipush 126, 2) := by decide +kernel
theorem d_Mo_run_45 : decode c_Mo_run 45 = .ok (.invokestatic 61, 3) := by decide +kernel
theorem d_Mo_run_48 : decode c_Mo_run 48 = .ok (.ifCond .ne 9, 3) := by decide +kernel
theorem d_Mo_run_51 : decode c_Mo_run 51 = .ok (.aload_n 0, 1) := by decide +kernel
theorem d_Mo_run_52 : decode c_Mo_run 52 = .ok (.iload_n 1, 1) := by decide +kernel
theorem d_Mo_run_53 : decode c_Mo_run 53 = .ok (.invokevirtual 65, 3) := by decide +kernel
theorem d_Mo_run_56 : decode c_Mo_run 56 = .ok (.pop, 1) := by decide +kernel
theorem d_Mo_run_57 : decode c_Mo_run 57 = .ok (.iinc 1 1, 3) := by decide +kernel
theorem d_Mo_run_60 : decode c_Mo_run 60 = .ok (.goto (-33), 3) := by decide +kernel
theorem d_Mo_run_63 : decode c_Mo_run 63 = .ok (.aload_n 0, 1) := by decide +kernel
theorem d_Mo_run_64 : decode c_Mo_run 64 = .ok (.iconst 0, 1) := by decide +kernel
theorem d_Mo_run_65 : decode c_Mo_run 65 = .ok (.putfield 54, 3) := by decide +kernel
theorem d_Mo_run_68 : decode c_Mo_run 68 = .ok (.aload_n 0, 1) := by decide +kernel
theorem d_Mo_run_69 : decode c_Mo_run 69 = .ok (.getfield 54, 3) := by decide +kernel
theorem d_Mo_run_72 : decode c_Mo_run 72 = .ok (.aload_n 0, 1) := by decide +kernel
theorem d_Mo_run_73 : decode c_Mo_run 73 = .ok (.getfield 44, 3) := by decide +kernel
theorem d_Mo_run_76 : decode c_Mo_run 76 = .ok (.if_icmp .ge 52, 3) := by decide +kernel
theorem d_Mo_run_79 : decode c_Mo_run 79 = .ok (.aload_n 0, 1) := by decide +kernel
theorem d_Mo_run_80 : decode c_Mo_run 80 = .ok (.getfield 7, 3) := by decide +kernel
theorem d_Mo_run_83 : decode c_Mo_run 83 = .ok (.ifCond .ge 45, 3) := by decide +kernel
theorem d_Mo_run_86 : decode c_Mo_run 86 = .ok (.aload_n 0, 1) := by decide +kernel
theorem d_Mo_run_87 : decode c_Mo_run 87 = .ok (.getfield 13, 3) := by decide +kernel
theorem d_Mo_run_90 : decode c_Mo_run 90 = .ok (.aload_n 0, 1) := by decide +kernel
theorem d_Mo_run_91 : decode c_Mo_run 91 = .ok (.getfield 54, 3) := by decide +kernel
theorem d_Mo_run_94 : decode c_Mo_run 94 = .ok (.iaload, 1) := by decide +kernel
theorem d_Mo_run_95 : decode c_Mo_run 95 = .ok (.bipush 37, 2) := by decide +kernel
theorem d_Mo_run_97 : decode c_Mo_run 97 = .ok (.if_icmp .ne 18, 3) := by decide +kernel
theorem d_Mo_run_100 : decode c_Mo_run 100 = .ok (.aload_n 0, 1) := by decide +kernel
theorem d_Mo_run_101 : decode c_Mo_run 101 = .ok (.dup, 1) := by decide +kernel
theorem d_Mo_run_102 : decode c_Mo_run 102 = .ok (.getfield 54, 3) := by decide +kernel
theorem d_Mo_run_105 : decode c_Mo_run 105 = .ok (.iconst 1, 1) := by decide +kernel
theorem d_Mo_run_106 : decode c_Mo_run 106 = .ok (.iadd, 1) := by decide +kernel
theorem d_Mo_run_107 : decode c_Mo_run 107 = .ok (.putfield 54, 3) := by decide +kernel
theorem d_Mo_run_110 : decode c_Mo_run 110 = .ok (.aload_n 0, 1) := by decide +kernel
theorem d_Mo_run_111 : decode c_Mo_run 111 = .ok (.invokevirtual 125, 3) := by decide +kernel
theorem d_Mo_run_114 : decode c_Mo_run 114 = .ok (.pop, 1) := by decide +kernel
theorem d_Mo_run_115 : decode c_Mo_run 115 = .ok (.aload_n 0, 1) := by decide +kernel
theorem d_Mo_run_116 : decode c_Mo_run 116 = .ok (.dup, 1) := by decide +kernel
theorem d_Mo_run_117 : decode c_Mo_run 117 = .ok (.getfield 54, 3) := by decide +kernel
theorem d_Mo_run_120 : decode c_Mo_run 120 = .ok (.iconst 1, 1) := by decide +kernel
theorem d_Mo_run_121 : decode c_Mo_run 121 = .ok (.iadd, 1) := by decide +kernel
theorem d_Mo_run_122 : decode c_Mo_run 122 = .ok (.putfield 54, 3) := by decide +kernel
theorem d_Mo_run_125 : decode c_Mo_run 125 = .ok (.goto (-57), 3) := by decide +kernel
theorem d_Mo_run_128 : decode c_Mo_run 128 = .ok (.aload_n 0, 1) := by decide +kernel
theorem d_Mo_run_129 : decode c_Mo_run 129 = .ok (.aload_n 0, 1) := by decide +kernel
theorem d_Mo_run_130 : decode c_Mo_run 130 = .ok (.getfield 7, 3) := by decide +kernel
theorem d_Mo_run_133 : decode c_Mo_run 133 = .ok (.ifCond .lt 7, 3) := by decide +kernel
theorem d_Mo_run_136 : decode c_Mo_run 136 = .ok (.iconst 1, 1) := by decide +kernel
theorem d_Mo_run_137 : decode c_Mo_run 137 = .ok (.goto 4, 3) := by decide +kernel
theorem d_Mo_run_140 : decode c_Mo_run 140 = .ok (.iconst 0, 1) := by decide +kernel
theorem d_Mo_run_141 : decode c_Mo_run 141 = .ok (.iconst 1, 1) := by decide +kernel
theorem d_Mo_run_142 : decode c_Mo_run 142 = .ok (.invokevirtual 47, 3) := by decide +kernel
theorem d_Mo_run_145 : decode c_Mo_run 145 = .ok (.ifCond .eq 5, 3) := by decide +kernel
theorem d_Mo_run_148 : decode c_Mo_run 148 = .ok (.iconst 0, 1) := by decide +kernel
theorem d_Mo_run_149 : decode c_Mo_run 149 = .ok (.ireturn, 1) := by decide +kernel
theorem d_Mo_run_150 : decode c_Mo_run 150 = .ok (.iconst 1, 1) := by decide +kernel
theorem d_Mo_run_151 : decode c_Mo_run 151 = .ok (.istore_n 1, 1) := by decide +kernel
theorem d_Mo_run_152 : decode c_Mo_run 152 = .ok (.aload_n 0, 1) := by decide +kernel
theorem d_Mo_run_153 : decode c_Mo_run 153 = .ok (.iconst 0, 1) := by decide +kernel
theorem d_Mo_run_154 : decode c_Mo_run 154 = .ok (.putfield 54, 3) := by decide +kernel
theorem d_Mo_run_157 : decode c_Mo_run 157 = .ok (.aload_n 0, 1) := by decide +kernel
theorem d_Mo_run_158 : decode c_Mo_run 158 = .ok (.getfield 54, 3) := by decide +kernel
theorem d_Mo_run_161 : decode c_Mo_run 161 = .ok (.aload_n 0, 1) := by decide +kernel
theorem d_Mo_run_162 : decode c_Mo_run 162 = .ok (.getfield 44, 3) := by decide +kernel
theorem d_Mo_run_165 : decode c_Mo_run 165 = .ok (.if_icmp .ge 154, 3) := by decide +kernel
theorem d_Mo_run_168 : decode c_Mo_run 168 = .ok (.iload_n 1, 1) := by decide +kernel
theorem d_Mo_run_169 : decode c_Mo_run 169 = .ok (.ifCond .eq 150, 3) := by decide +kernel
theorem d_Mo_run_172 : decode c_Mo_run 172 = .ok (.aload_n 0, 1) := by decide +kernel
theorem d_Mo_run_173 : decode c_Mo_run 173 = .ok (.getfield 13, 3) := by decide +kernel
theorem d_Mo_run_176 : decode c_Mo_run 176 = .ok (.aload_n 0, 1) := by decide +kernel
theorem d_Mo_run_177 : decode c_Mo_run 177 = .ok (.getfield 54, 3) := by decide +kernel
theorem d_Mo_run_180 : decode c_Mo_run 180 = .ok (.iaload, 1) := by decide +kernel
theorem d_Mo_run_181 : decode c_Mo_run 181 = .ok (.bipush 37, 2) := by decide +kernel
theorem d_Mo_run_183 : decode c_Mo_run 183 = .ok (.if_icmp .eq 20, 3) := by decide +kernel
theorem d_Mo_run_186 : decode c_Mo_run 186 = .ok (.aload_n 0, 1) := by decide +kernel
theorem d_Mo_run_187 : decode c_Mo_run 187 = .ok (.aload_n 0, 1) := by decide +kernel
theorem d_Mo_run_188 : decode c_Mo_run 188 = .ok (.getfield 13, 3) := by decide +kernel
theorem d_Mo_run_191 : decode c_Mo_run 191 = .ok (.aload_n 0, 1) := by decide +kernel
theorem d_Mo_run_192 : decode c_Mo_run 192 = .ok (.getfield 54, 3) := by decide +kernel
theorem d_Mo_run_195 : decode c_Mo_run 195 = .ok (.iaload, 1) := by decide +kernel
theorem d_Mo_run_196 : decode c_Mo_run 196 = .ok (.invokevirtual 129, 3) := by decide +kernel
theorem d_Mo_run_199 : decode c_Mo_run 199 = .ok (.istore_n 1, 1) := by decide +kernel
theorem d_Mo_run_200 : decode c_Mo_run 200 = .ok (.goto 106, 3) := by decide +kernel
theorem d_Mo_run_203 : decode c_Mo_run 203 = .ok (.aload_n 0, 1) := by decide +kernel
theorem d_Mo_run_204 : decode c_Mo_run 204 = .ok (.dup, 1) := by decide +kernel
theorem d_Mo_run_205 : decode c_Mo_run 205 = .ok (.getfield 54, 3) := by decide +kernel
theorem d_Mo_run_208 : decode c_Mo_run 208 = .ok (.iconst 1, 1) := by decide +kernel
theorem d_Mo_run_209 : decode c_Mo_run 209 = .ok (.iadd, 1) := by decide +kernel
theorem d_Mo_run_210 : decode c_Mo_run 210 = .ok (.putfield 54, 3) := by decide +kernel
theorem d_Mo_run_213 : decode c_Mo_run 213 = .ok (.aload_n 0, 1) := by decide +kernel
theorem d_Mo_run_214 : decode c_Mo_run 214 = .ok (.invokevirtual 125, 3) := by decide +kernel
theorem d_Mo_run_217 : decode c_Mo_run 217 = .ok (.pop, 1) := by decide +kernel
theorem d_Mo_run_218 : decode c_Mo_run 218 = .ok (.aload_n 0, 1) := by decide +kernel
theorem d_Mo_run_219 : decode c_Mo_run 219 = .ok (.dup, 1) := by decide +kernel
theorem d_Mo_run_220 : decode c_Mo_run 220 = .ok (.getfield 122, 3) := by decide +kernel
theorem d_Mo_run_223 : decode c_Mo_run 223 = .ok (.iconst 1, 1) := by decide +kernel
theorem d_Mo_run_224 : decode c_Mo_run 224 = .ok (.iadd, 1) := by decide +kernel
theorem d_Mo_run_225 : decode c_Mo_run 225 = .ok (.putfield 122, 3) := by decide +kernel
theorem d_Mo_run_228 : decode c_Mo_run 228 = .ok (.aload_n 0, 1) := by decide +kernel
theorem d_Mo_run_229 : decode c_Mo_run 229 = .ok (.getfield 85, 3) := by decide +kernel
theorem d_Mo_run_232 : decode c_Mo_run 232 = .ok (.ifCond .eq 34, 3) := by decide +kernel
theorem d_Mo_run_235 : decode c_Mo_run 235 = .ok (.aload_n 0, 1) := by decide +kernel
theorem d_Mo_run_236 : decode c_Mo_run 236 = .ok (.invokevirtual 132, 3) := by decide +kernel
theorem d_Mo_run_239 : decode c_Mo_run 239 = .ok (.invokestatic 136, 3) := by decide +kernel
theorem d_Mo_run_242 : decode c_Mo_run 242 = .ok (.istore_n 2, 1) := by decide +kernel
theorem d_Mo_run_243 : decode c_Mo_run 243 = .ok (.iload_n 2, 1) := by decide +kernel
theorem d_Mo_run_244 : decode c_Mo_run 244 = .ok (.ifCond .ge 8, 3) := by decide +kernel
theorem d_Mo_run_247 : decode c_Mo_run 247 = .ok (.aload_n 0, 1) := by decide +kernel
theorem d_Mo_run_248 : decode c_Mo_run 248 = .ok (.iconst 1, 1) := by decide +kernel
theorem d_Mo_run_249 : decode c_Mo_run 249 = .ok (.putfield 69, 3) := by decide +kernel
theorem d_Mo_run_252 : decode c_Mo_run 252 = .ok (.aload_n 0, 1) := by decide +kernel
theorem d_Mo_run_253 : decode c_Mo_run 253 = .ok (.iload_n 2, 1) := by decide +kernel
theorem d_Mo_run_254 : decode c_Mo_run 254 = .ok (.ifCond .ge 8, 3) := by decide +kernel
theorem d_Mo_run_257 : decode c_Mo_run 257 = .ok (.iload_n 2, 1) := by decide +kernel
theorem d_Mo_run_258 : decode c_Mo_run 258 = .ok (.ineg, 1) := by decide +kernel
theorem d_Mo_run_259 : decode c_Mo_run 259 = .ok (.goto 4, 3) := by decide +kernel
theorem d_Mo_run_262 : decode c_Mo_run 262 = .ok (.iload_n 2, 1) := by decide +kernel
theorem d_Mo_run_263 : decode c_Mo_run 263 = .ok (.putfield 91, 3) := by decide +kernel
theorem d_Mo_run_266 : decode c_Mo_run 266 = .ok (.aload_n 0, 1) := by decide +kernel
theorem d_Mo_run_267 : decode c_Mo_run 267 = .ok (.getfield 88, 3) := by decide +kernel
theorem d_Mo_run_270 : decode c_Mo_run 270 = .ok (.ifCond .eq 18, 3) := by decide +kernel
theorem d_Mo_run_273 : decode c_Mo_run 273 = .ok (.aload_n 0, 1) := by decide +kernel
theorem d_Mo_run_274 : decode c_Mo_run 274 = .ok (.aload_n 0, 1) := by decide +kernel
theorem d_Mo_run_275 : decode c_Mo_run 275 = .ok (.invokevirtual 132, 3) := by decide +kernel
theorem d_Mo_run_278 : decode c_Mo_run 278 = .ok (.invokestatic 136, 3) := by decide +kernel
theorem d_Mo_run_281 : decode c_Mo_run 281 = .ok (.iconst (-1), 1) := by decide +kernel
theorem d_Mo_run_282 : decode c_Mo_run 282 = .ok (.invokestatic 140, 3) := by decide +kernel
theorem d_Mo_run_285 : decode c_Mo_run 285 = .ok (.putfield 94, 3) := by decide +kernel
theorem d_Mo_run_288 : decode c_Mo_run 288 = .ok (.aload_n 0, 1) := by decide +kernel
theorem d_Mo_run_289 : decode c_Mo_run 289 = .ok (.aload_n 0, 1) := by decide +kernel
theorem d_Mo_run_290 : decode c_Mo_run 290 = .ok (.getfield 13, 3) := by decide +kernel
theorem d_Mo_run_293 : decode c_Mo_run 293 = .ok (.aload_n 0, 1) := by decide +kernel
theorem d_Mo_run_294 : decode c_Mo_run 294 = .ok (.getfield 54, 3) := by decide +kernel
theorem d_Mo_run_297 : decode c_Mo_run 297 = .ok (.iaload, 1) := by decide +kernel
theorem d_Mo_run_298 : decode c_Mo_run 298 = .ok (.invokevirtual 146, 3) := by decide +kernel
theorem d_Mo_run_301 : decode c_Mo_run 301 = .ok (.aload_n 0, 1) := by decide +kernel
theorem d_Mo_run_302 : decode c_Mo_run 302 = .ok (.invokevirtual 150, 3) := by decide +kernel
theorem d_Mo_run_305 : decode c_Mo_run 305 = .ok (.istore_n 1, 1) := by decide +kernel
theorem d_Mo_run_306 : decode c_Mo_run 306 = .ok (.aload_n 0, 1) := by decide +kernel
theorem d_Mo_run_307 : decode c_Mo_run 307 = .ok (.dup, 1) := by decide +kernel
theorem d_Mo_run_308 : decode c_Mo_run 308 = .ok (.getfield 54, 3) := by decide +kernel
theorem d_Mo_run_311 : decode c_Mo_run 311 = .ok (.iconst 1, 1) := by decide +kernel
theorem d_Mo_run_312 : decode c_Mo_run 312 = .ok (.iadd, 1) := by decide +kernel
theorem d_Mo_run_313 : decode c_Mo_run 313 = .ok (.putfield 54, 3) := by decide +kernel
theorem d_Mo_run_316 : decode c_Mo_run 316 = .ok (.goto (-159), 3) := by decide +kernel
theorem d_Mo_run_319 : decode c_Mo_run 319 = .ok (.iload_n 1, 1) := by decide +kernel
theorem d_Mo_run_320 : decode c_Mo_run 320 = .ok (.ifCond .ne 18, 3) := by decide +kernel
theorem d_Mo_run_323 : decode c_Mo_run 323 = .ok (.aload_n 0, 1) := by decide +kernel
theorem d_Mo_run_324 : decode c_Mo_run 324 = .ok (.iconst 0, 1) := by decide +kernel
theorem d_Mo_run_325 : decode c_Mo_run 325 = .ok (.putfield 119, 3) := by decide +kernel
theorem d_Mo_run_328 : decode c_Mo_run 328 = .ok (.aload_n 0, 1) := by decide +kernel
theorem d_Mo_run_329 : decode c_Mo_run 329 = .ok (.iconst 0, 1) := by decide +kernel
theorem d_Mo_run_330 : decode c_Mo_run 330 = .ok (.putfield 112, 3) := by decide +kernel
theorem d_Mo_run_333 : decode c_Mo_run 333 = .ok (.aload_n 0, 1) := by decide +kernel
theorem d_Mo_run_334 : decode c_Mo_run 334 = .ok (.iconst 0, 1) := by decide +kernel
theorem d_Mo_run_335 : decode c_Mo_run 335 = .ok (.putfield 122, 3) := by decide +kernel
theorem d_Mo_run_338 : decode c_Mo_run 338 = .ok (.aload_n 0, 1) := by decide +kernel
theorem d_Mo_run_339 : decode c_Mo_run 339 = .ok (.iload_n 1, 1) := by decide +kernel
theorem d_Mo_run_340 : decode c_Mo_run 340 = .ok (.ifCond .ne 7, 3) := by decide +kernel
theorem d_Mo_run_343 : decode c_Mo_run 343 = .ok (.iconst 1, 1) := by decide +kernel
theorem d_Mo_run_344 : decode c_Mo_run 344 = .ok (.goto 4, 3) := by decide +kernel
theorem d_Mo_run_347 : decode c_Mo_run 347 = .ok (.iconst 0, 1) := by decide +kernel
theorem d_Mo_run_348 : decode c_Mo_run 348 = .ok (.iconst 2, 1) := by decide +kernel
theorem d_Mo_run_349 : decode c_Mo_run 349 = .ok (.invokevirtual 47, 3) := by decide +kernel
theorem d_Mo_run_352 : decode c_Mo_run 352 = .ok (.ifCond .eq 7, 3) := by decide +kernel
theorem d_Mo_run_355 : decode c_Mo_run 355 = .ok (.iconst 0, 1) := by decide +kernel
theorem d_Mo_run_356 : decode c_Mo_run 356 = .ok (.goto 7, 3) := by decide +kernel
theorem d_Mo_run_359 : decode c_Mo_run 359 = .ok (.aload_n 0, 1) := by decide +kernel
theorem d_Mo_run_360 : decode c_Mo_run 360 = .ok (.getfield 119, 3) := by decide +kernel
theorem d_Mo_run_363 : decode c_Mo_run 363 = .ok (.ireturn, 1) := by decide +kernel
theorem d_Mo_give_0 : decode c_Mo_give 0 = .ok (.aload_n 0, 1) := by decide +kernel
theorem d_Mo_give_1 : decode c_Mo_give 1 = .ok (.getfield 119, 3) := by decide +kernel
theorem d_Mo_give_4 : decode c_Mo_give 4 = .ok (.sipush 4000, 3) := by decide +kernel
theorem d_Mo_give_7 : decode c_Mo_give 7 = .ok (.if_icmp .ne 5, 3) := by decide +kernel
theorem d_Mo_give_10 : decode c_Mo_give 10 = .ok (.iconst 0, 1) := by decide +kernel
theorem d_Mo_give_11 : decode c_Mo_give 11 = .ok (.ireturn, 1) := by decide +kernel
theorem d_Mo_give_12 : decode c_Mo_give 12 = .ok (.aload_n 0, 1) := by decide +kernel
theorem d_Mo_give_13 : decode c_Mo_give 13 = .ok (.getfield 17, 3) := by decide +kernel
theorem d_Mo_give_16 : decode c_Mo_give 16 = .ok (.aload_n 0, 1) := by decide +kernel
theorem d_Mo_give_17 : decode c_Mo_give 17 = .ok (.dup, 1) := by decide +kernel
theorem d_Mo_give_18 : decode c_Mo_give 18 = .ok (.getfield 119, 3) := by decide +kernel
theorem d_Mo_give_21 : decode c_Mo_give 21 = .ok (.dup_x1, 1) := by decide +kernel
theorem d_Mo_give_22 : decode c_Mo_give 22 = .ok (.iconst 1, 1) := by decide +kernel
