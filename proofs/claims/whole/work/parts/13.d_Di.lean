/-! decode rows: Di -/
theorem d_Di_init_0 : decode c_Di_init 0 = .ok (.aload_n 0, 1) := by decide +kernel
theorem d_Di_init_1 : decode c_Di_init 1 = .ok (.invokespecial 3, 3) := by decide +kernel
theorem d_Di_init_4 : decode c_Di_init 4 = .ok (.return_, 1) := by decide +kernel
theorem d_Di_read_0 : decode c_Di_read 0 = .ok (.aload_n 0, 1) := by decide +kernel
theorem d_Di_read_1 : decode c_Di_read 1 = .ok (.invokevirtual 9, 3) := by decide +kernel
theorem d_Di_read_4 : decode c_Di_read 4 = .ok (.aload_n 0, 1) := by decide +kernel
theorem d_Di_read_5 : decode c_Di_read 5 = .ok (.iload_n 2, 1) := by decide +kernel
theorem d_Di_read_6 : decode c_Di_read 6 = .ok (.iconst 1, 1) := by decide +kernel
theorem d_Di_read_7 : decode c_Di_read 7 = .ok (.iadd, 1) := by decide +kernel
theorem d_Di_read_8 : decode c_Di_read 8 = .ok (.putfield 14, 3) := by decide +kernel
theorem d_Di_read_11 : decode c_Di_read 11 = .ok (.aload_n 0, 1) := by decide +kernel
theorem d_Di_read_12 : decode c_Di_read 12 = .ok (.aload_n 1, 1) := by decide +kernel
theorem d_Di_read_13 : decode c_Di_read 13 = .ok (.invokevirtual 18, 3) := by decide +kernel
theorem d_Di_read_16 : decode c_Di_read 16 = .ok (.aload_n 0, 1) := by decide +kernel
theorem d_Di_read_17 : decode c_Di_read 17 = .ok (.aload_n 1, 1) := by decide +kernel
theorem d_Di_read_18 : decode c_Di_read 18 = .ok (.invokevirtual 22, 3) := by decide +kernel
theorem d_Di_read_21 : decode c_Di_read 21 = .ok (.ifCond .eq 23, 3) := by decide +kernel
theorem d_Di_read_24 : decode c_Di_read 24 = .ok (.aload_n 0, 1) := by decide +kernel
theorem d_Di_read_25 : decode c_Di_read 25 = .ok (.aload_n 1, 1) := by decide +kernel
theorem d_Di_read_26 : decode c_Di_read 26 = .ok (.invokevirtual 26, 3) := by decide +kernel
theorem d_Di_read_29 : decode c_Di_read 29 = .ok (.ifCond .eq 15, 3) := by decide +kernel
theorem d_Di_read_32 : decode c_Di_read 32 = .ok (.aload_n 0, 1) := by decide +kernel
theorem d_Di_read_33 : decode c_Di_read 33 = .ok (.aload_n 1, 1) := by decide +kernel
theorem d_Di_read_34 : decode c_Di_read 34 = .ok (.invokevirtual 29, 3) := by decide +kernel
theorem d_Di_read_37 : decode c_Di_read 37 = .ok (.ifCond .eq 7, 3) := by decide +kernel
theorem d_Di_read_40 : decode c_Di_read 40 = .ok (.iconst 1, 1) := by decide +kernel
theorem d_Di_read_41 : decode c_Di_read 41 = .ok (.goto 4, 3) := by decide +kernel
theorem d_Di_read_44 : decode c_Di_read 44 = .ok (.iconst 0, 1) := by decide +kernel
theorem d_Di_read_45 : decode c_Di_read 45 = .ok (.ireturn, 1) := by decide +kernel
theorem d_Di_forget_0 : decode c_Di_forget 0 = .ok (.aload_n 0, 1) := by decide +kernel
theorem d_Di_forget_1 : decode c_Di_forget 1 = .ok (.iconst 0, 1) := by decide +kernel
theorem d_Di_forget_2 : decode c_Di_forget 2 = .ok (.putfield 32, 3) := by decide +kernel
theorem d_Di_forget_5 : decode c_Di_forget 5 = .ok (.aload_n 0, 1) := by decide +kernel
theorem d_Di_forget_6 : decode c_Di_forget 6 = .ok (.iconst 0, 1) := by decide +kernel
theorem d_Di_forget_7 : decode c_Di_forget 7 = .ok (.putfield 36, 3) := by decide +kernel
theorem d_Di_forget_10 : decode c_Di_forget 10 = .ok (.aload_n 0, 1) := by decide +kernel
theorem d_Di_forget_11 : decode c_Di_forget 11 = .ok (.iconst 0, 1) := by decide +kernel
theorem d_Di_forget_12 : decode c_Di_forget 12 = .ok (.putfield 39, 3) := by decide +kernel
theorem d_Di_forget_15 : decode c_Di_forget 15 = .ok (.aload_n 0, 1) := by decide +kernel
theorem d_Di_forget_16 : decode c_Di_forget 16 = .ok (.iconst 0, 1) := by decide +kernel
theorem d_Di_forget_17 : decode c_Di_forget 17 = .ok (.putfield 42, 3) := by decide +kernel
theorem d_Di_forget_20 : decode c_Di_forget 20 = .ok (.aload_n 0, 1) := by decide +kernel
theorem d_Di_forget_21 : decode c_Di_forget 21 = .ok (.iconst 0, 1) := by decide +kernel
theorem d_Di_forget_22 : decode c_Di_forget 22 = .ok (.putfield 45, 3) := by decide +kernel
theorem d_Di_forget_25 : decode c_Di_forget 25 = .ok (.aload_n 0, 1) := by decide +kernel
theorem d_Di_forget_26 : decode c_Di_forget 26 = .ok (.iconst 0, 1) := by decide +kernel
theorem d_Di_forget_27 : decode c_Di_forget 27 = .ok (.putfield 48, 3) := by decide +kernel
theorem d_Di_forget_30 : decode c_Di_forget 30 = .ok (.aload_n 0, 1) := by decide +kernel
theorem d_Di_forget_31 : decode c_Di_forget 31 = .ok (.iconst 0, 1) := by decide +kernel
theorem d_Di_forget_32 : decode c_Di_forget 32 = .ok (.putfield 51, 3) := by decide +kernel
theorem d_Di_forget_35 : decode c_Di_forget 35 = .ok (.aload_n 0, 1) := by decide +kernel
theorem d_Di_forget_36 : decode c_Di_forget 36 = .ok (.iconst (-1), 1) := by decide +kernel
theorem d_Di_forget_37 : decode c_Di_forget 37 = .ok (.putfield 54, 3) := by decide +kernel
theorem d_Di_forget_40 : decode c_Di_forget 40 = .ok (.aload_n 0, 1) := by decide +kernel
theorem d_Di_forget_41 : decode c_Di_forget 41 = .ok (.iconst 0, 1) := by decide +kernel
theorem d_Di_forget_42 : decode c_Di_forget 42 = .ok (.putfield 57, 3) := by decide +kernel
theorem d_Di_forget_45 : decode c_Di_forget 45 = .ok (.aload_n 0, 1) := by decide +kernel
theorem d_Di_forget_46 : decode c_Di_forget 46 = .ok (.bipush 37, 2) := by decide +kernel
theorem d_Di_forget_48 : decode c_Di_forget 48 = .ok (.putfield 60, 3) := by decide +kernel
theorem d_Di_forget_51 : decode c_Di_forget 51 = .ok (.aload_n 0, 1) := by decide +kernel
theorem d_Di_forget_52 : decode c_Di_forget 52 = .ok (.iconst 0, 1) := by decide +kernel
theorem d_Di_forget_53 : decode c_Di_forget 53 = .ok (.putfield 63, 3) := by decide +kernel
theorem d_Di_forget_56 : decode c_Di_forget 56 = .ok (.return_, 1) := by decide +kernel
theorem d_Di_readFlags_0 : decode c_Di_readFlags 0 = .ok (.aload_n 0, 1) := by decide +kernel
theorem d_Di_readFlags_1 : decode c_Di_readFlags 1 = .ok (.getfield 14, 3) := by decide +kernel
theorem d_Di_readFlags_4 : decode c_Di_readFlags 4 = .ok (.aload_n 1, 1) := by decide +kernel
theorem d_Di_readFlags_5 : decode c_Di_readFlags 5 = .ok (.getfield 66, 3) := by decide +kernel
theorem d_Di_readFlags_8 : decode c_Di_readFlags 8 = .ok (.if_icmp .ge 114, 3) := by decide +kernel
theorem d_Di_readFlags_11 : decode c_Di_readFlags 11 = .ok (.aload_n 1, 1) := by decide +kernel
theorem d_Di_readFlags_12 : decode c_Di_readFlags 12 = .ok (.aload_n 0, 1) := by decide +kernel
theorem d_Di_readFlags_13 : decode c_Di_readFlags 13 = .ok (.getfield 14, 3) := by decide +kernel
theorem d_Di_readFlags_16 : decode c_Di_readFlags 16 = .ok (.invokevirtual 71, 3) := by decide +kernel
theorem d_Di_readFlags_19 : decode c_Di_readFlags 19 = .ok (.lookupswitch 89 #[(32, 65), (35, 73), (43, 57), (45, 49), (48, 81)], 49) := by decide +kernel
theorem d_Di_readFlags_68 : decode c_Di_readFlags 68 = .ok (.aload_n 0, 1) := by decide +kernel
theorem d_Di_readFlags_69 : decode c_Di_readFlags 69 = .ok (.iconst 1, 1) := by decide +kernel
theorem d_Di_readFlags_70 : decode c_Di_readFlags 70 = .ok (.putfield 32, 3) := by decide +kernel
theorem d_Di_readFlags_73 : decode c_Di_readFlags 73 = .ok (.goto 36, 3) := by decide +kernel
theorem d_Di_readFlags_76 : decode c_Di_readFlags 76 = .ok (.aload_n 0, 1) := by decide +kernel
theorem d_Di_readFlags_77 : decode c_Di_readFlags 77 = .ok (.iconst 1, 1) := by decide +kernel
theorem d_Di_readFlags_78 : decode c_Di_readFlags 78 = .ok (.putfield 36, 3) := by decide +kernel
theorem d_Di_readFlags_81 : decode c_Di_readFlags 81 = .ok (.goto 28, 3) := by decide +kernel
theorem d_Di_readFlags_84 : decode c_Di_readFlags 84 = .ok (.aload_n 0, 1) := by decide +kernel
theorem d_Di_readFlags_85 : decode c_Di_readFlags 85 = .ok (.iconst 1, 1) := by decide +kernel
theorem d_Di_readFlags_86 : decode c_Di_readFlags 86 = .ok (.putfield 39, 3) := by decide +kernel
theorem d_Di_readFlags_89 : decode c_Di_readFlags 89 = .ok (.goto 20, 3) := by decide +kernel
theorem d_Di_readFlags_92 : decode c_Di_readFlags 92 = .ok (.aload_n 0, 1) := by decide +kernel
theorem d_Di_readFlags_93 : decode c_Di_readFlags 93 = .ok (.iconst 1, 1) := by decide +kernel
theorem d_Di_readFlags_94 : decode c_Di_readFlags 94 = .ok (.putfield 42, 3) := by decide +kernel
theorem d_Di_readFlags_97 : decode c_Di_readFlags 97 = .ok (.goto 12, 3) := by decide +kernel
theorem d_Di_readFlags_100 : decode c_Di_readFlags 100 = .ok (.aload_n 0, 1) := by decide +kernel
theorem d_Di_readFlags_101 : decode c_Di_readFlags 101 = .ok (.iconst 1, 1) := by decide +kernel
theorem d_Di_readFlags_102 : decode c_Di_readFlags 102 = .ok (.putfield 45, 3) := by decide +kernel
theorem d_Di_readFlags_105 : decode c_Di_readFlags 105 = .ok (.goto 4, 3) := by decide +kernel
theorem d_Di_readFlags_108 : decode c_Di_readFlags 108 = .ok (.return_, 1) := by decide +kernel
theorem d_Di_readFlags_109 : decode c_Di_readFlags 109 = .ok (.aload_n 0, 1) := by decide +kernel
theorem d_Di_readFlags_110 : decode c_Di_readFlags 110 = .ok (.dup, 1) := by decide +kernel
theorem d_Di_readFlags_111 : decode c_Di_readFlags 111 = .ok (.getfield 14, 3) := by decide +kernel
theorem d_Di_readFlags_114 : decode c_Di_readFlags 114 = .ok (.iconst 1, 1) := by decide +kernel
theorem d_Di_readFlags_115 : decode c_Di_readFlags 115 = .ok (.iadd, 1) := by decide +kernel
theorem d_Di_readFlags_116 : decode c_Di_readFlags 116 = .ok (.putfield 14, 3) := by decide +kernel
theorem d_Di_readFlags_119 : decode c_Di_readFlags 119 = .ok (.goto (-119), 3) := by decide +kernel
theorem d_Di_readFlags_122 : decode c_Di_readFlags 122 = .ok (.return_, 1) := by decide +kernel
theorem d_Di_readWidth_0 : decode c_Di_readWidth 0 = .ok (.aload_n 0, 1) := by decide +kernel
theorem d_Di_readWidth_1 : decode c_Di_readWidth 1 = .ok (.aload_n 0, 1) := by decide +kernel
theorem d_Di_readWidth_2 : decode c_Di_readWidth 2 = .ok (.aload_n 1, 1) := by decide +kernel
theorem d_Di_readWidth_3 : decode c_Di_readWidth 3 = .ok (.bipush 42, 2) := by decide +kernel
theorem d_Di_readWidth_5 : decode c_Di_readWidth 5 = .ok (.invokevirtual 75, 3) := by decide +kernel
theorem d_Di_readWidth_8 : decode c_Di_readWidth 8 = .ok (.putfield 51, 3) := by decide +kernel
theorem d_Di_readWidth_11 : decode c_Di_readWidth 11 = .ok (.aload_n 0, 1) := by decide +kernel
theorem d_Di_readWidth_12 : decode c_Di_readWidth 12 = .ok (.getfield 51, 3) := by decide +kernel
theorem d_Di_readWidth_15 : decode c_Di_readWidth 15 = .ok (.ifCond .eq 5, 3) := by decide +kernel
theorem d_Di_readWidth_18 : decode c_Di_readWidth 18 = .ok (.iconst 1, 1) := by decide +kernel
theorem d_Di_readWidth_19 : decode c_Di_readWidth 19 = .ok (.ireturn, 1) := by decide +kernel
theorem d_Di_readWidth_20 : decode c_Di_readWidth 20 = .ok (.aload_n 0, 1) := by decide +kernel
theorem d_Di_readWidth_21 : decode c_Di_readWidth 21 = .ok (.aload_n 0, 1) := by decide +kernel
theorem d_Di_readWidth_22 : decode c_Di_readWidth 22 = .ok (.aload_n 1, 1) := by decide +kernel
theorem d_Di_readWidth_23 : decode c_Di_readWidth 23 = .ok (.invokevirtual 79, 3) := by decide +kernel
theorem d_Di_readWidth_26 : decode c_Di_readWidth 26 = .ok (.putfield 48, 3) := by decide +kernel
theorem d_Di_readWidth_29 : decode c_Di_readWidth 29 = .ok (.aload_n 0, 1) := by decide +kernel
theorem d_Di_readWidth_30 : decode c_Di_readWidth 30 = .ok (.getfield 48, 3) := by decide +kernel
theorem d_Di_readWidth_33 : decode c_Di_readWidth 33 = .ok (.sipush 200, 3) := by decide +kernel
theorem d_Di_readWidth_36 : decode c_Di_readWidth 36 = .ok (.if_icmp .gt 7, 3) := by decide +kernel
theorem d_Di_readWidth_39 : decode c_Di_readWidth 39 = .ok (.iconst 1, 1) := by decide +kernel
theorem d_Di_readWidth_40 : decode c_Di_readWidth 40 = .ok (.goto 4, 3) := by decide +kernel
theorem d_Di_readWidth_43 : decode c_Di_readWidth 43 = .ok (.iconst 0, 1) := by decide +kernel
theorem d_Di_readWidth_44 : decode c_Di_readWidth 44 = .ok (.ireturn, 1) := by decide +kernel
theorem d_Di_readPrecision_0 : decode c_Di_readPrecision 0 = .ok (.aload_n 0, 1) := by decide +kernel
theorem d_Di_readPrecision_1 : decode c_Di_readPrecision 1 = .ok (.aload_n 1, 1) := by decide +kernel
theorem d_Di_readPrecision_2 : decode c_Di_readPrecision 2 = .ok (.bipush 46, 2) := by decide +kernel
theorem d_Di_readPrecision_4 : decode c_Di_readPrecision 4 = .ok (.invokevirtual 75, 3) := by decide +kernel
theorem d_Di_readPrecision_7 : decode c_Di_readPrecision 7 = .ok (.ifCond .ne 5, 3) := by decide +kernel
theorem d_Di_readPrecision_10 : decode c_Di_readPrecision 10 = .ok (.iconst 1, 1) := by decide +kernel
theorem d_Di_readPrecision_11 : decode c_Di_readPrecision 11 = .ok (.ireturn, 1) := by decide +kernel
theorem d_Di_readPrecision_12 : decode c_Di_readPrecision 12 = .ok (.aload_n 0, 1) := by decide +kernel
theorem d_Di_readPrecision_13 : decode c_Di_readPrecision 13 = .ok (.aload_n 0, 1) := by decide +kernel
theorem d_Di_readPrecision_14 : decode c_Di_readPrecision 14 = .ok (.aload_n 1, 1) := by decide +kernel
theorem d_Di_readPrecision_15 : decode c_Di_readPrecision 15 = .ok (.bipush 42, 2) := by decide +kernel
theorem d_Di_readPrecision_17 : decode c_Di_readPrecision 17 = .ok (.invokevirtual 75, 3) := by decide +kernel
theorem d_Di_readPrecision_20 : decode c_Di_readPrecision 20 = .ok (.putfield 57, 3) := by decide +kernel
theorem d_Di_readPrecision_23 : decode c_Di_readPrecision 23 = .ok (.aload_n 0, 1) := by decide +kernel
theorem d_Di_readPrecision_24 : decode c_Di_readPrecision 24 = .ok (.getfield 57, 3) := by decide +kernel
theorem d_Di_readPrecision_27 : decode c_Di_readPrecision 27 = .ok (.ifCond .eq 5, 3) := by decide +kernel
theorem d_Di_readPrecision_30 : decode c_Di_readPrecision 30 = .ok (.iconst 1, 1) := by decide +kernel
theorem d_Di_readPrecision_31 : decode c_Di_readPrecision 31 = .ok (.ireturn, 1) := by decide +kernel
theorem d_Di_readPrecision_32 : decode c_Di_readPrecision 32 = .ok (.aload_n 0, 1) := by decide +kernel
theorem d_Di_readPrecision_33 : decode c_Di_readPrecision 33 = .ok (.aload_n 0, 1) := by decide +kernel
theorem d_Di_readPrecision_34 : decode c_Di_readPrecision 34 = .ok (.aload_n 1, 1) := by decide +kernel
theorem d_Di_readPrecision_35 : decode c_Di_readPrecision 35 = .ok (.invokevirtual 79, 3) := by decide +kernel
theorem d_Di_readPrecision_38 : decode c_Di_readPrecision 38 = .ok (.putfield 54, 3) := by decide +kernel
theorem d_Di_readPrecision_41 : decode c_Di_readPrecision 41 = .ok (.aload_n 0, 1) := by decide +kernel
theorem d_Di_readPrecision_42 : decode c_Di_readPrecision 42 = .ok (.getfield 54, 3) := by decide +kernel
theorem d_Di_readPrecision_45 : decode c_Di_readPrecision 45 = .ok (.sipush 200, 3) := by decide +kernel
theorem d_Di_readPrecision_48 : decode c_Di_readPrecision 48 = .ok (.if_icmp .gt 7, 3) := by decide +kernel
theorem d_Di_readPrecision_51 : decode c_Di_readPrecision 51 = .ok (.iconst 1, 1) := by decide +kernel
theorem d_Di_readPrecision_52 : decode c_Di_readPrecision 52 = .ok (.goto 4, 3) := by decide +kernel
theorem d_Di_readPrecision_55 : decode c_Di_readPrecision 55 = .ok (.iconst 0, 1) := by decide +kernel
theorem d_Di_readPrecision_56 : decode c_Di_readPrecision 56 = .ok (.ireturn, 1) := by decide +kernel
theorem d_Di_readIf_0 : decode c_Di_readIf 0 = .ok (.aload_n 1, 1) := by decide +kernel
theorem d_Di_readIf_1 : decode c_Di_readIf 1 = .ok (.aload_n 0, 1) := by decide +kernel
theorem d_Di_readIf_2 : decode c_Di_readIf 2 = .ok (.getfield 14, 3) := by decide +kernel
theorem d_Di_readIf_5 : decode c_Di_readIf 5 = .ok (.invokevirtual 71, 3) := by decide +kernel
theorem d_Di_readIf_8 : decode c_Di_readIf 8 = .ok (.iload_n 2, 1) := by decide +kernel
theorem d_Di_readIf_9 : decode c_Di_readIf 9 = .ok (.if_icmp .eq 5, 3) := by decide +kernel
theorem d_Di_readIf_12 : decode c_Di_readIf 12 = .ok (.iconst 0, 1) := by decide +kernel
theorem d_Di_readIf_13 : decode c_Di_readIf 13 = .ok (.ireturn, 1) := by decide +kernel
theorem d_Di_readIf_14 : decode c_Di_readIf 14 = .ok (.aload_n 0, 1) := by decide +kernel
theorem d_Di_readIf_15 : decode c_Di_readIf 15 = .ok (.dup, 1) := by decide +kernel
theorem d_Di_readIf_16 : decode c_Di_readIf 16 = .ok (.getfield 14, 3) := by decide +kernel
theorem d_Di_readIf_19 : decode c_Di_readIf 19 = .ok (.iconst 1, 1) := by decide +kernel
theorem d_Di_readIf_20 : decode c_Di_readIf 20 = .ok (.iadd, 1) := by decide +kernel
theorem d_Di_readIf_21 : decode c_Di_readIf 21 = .ok (.putfield 14, 3) := by decide +kernel
theorem d_Di_readIf_24 : decode c_Di_readIf 24 = .ok (.iconst 1, 1) := by decide +kernel
theorem d_Di_readIf_25 : decode c_Di_readIf 25 = .ok (.ireturn, 1) := by decide +kernel
theorem d_Di_readDigits_0 : decode c_Di_readDigits 0 = .ok (.aload_n 0, 1) := by decide +kernel
theorem d_Di_readDigits_1 : decode c_Di_readDigits 1 = .ok (.getfield 14, 3) := by decide +kernel
theorem d_Di_readDigits_4 : decode c_Di_readDigits 4 = .ok (.istore_n 2, 1) := by decide +kernel
theorem d_Di_readDigits_5 : decode c_Di_readDigits 5 = .ok (.iconst 0, 1) := by decide +kernel
theorem d_Di_readDigits_6 : decode c_Di_readDigits 6 = .ok (.istore_n 3, 1) := by decide +kernel
theorem d_Di_readDigits_7 : decode c_Di_readDigits 7 = .ok (.iconst 0, 1) := by decide +kernel
theorem d_Di_readDigits_8 : decode c_Di_readDigits 8 = .ok (.istore 4, 2) := by decide +kernel
theorem d_Di_readDigits_10 : decode c_Di_readDigits 10 = .ok (.iload 4, 2) := by decide +kernel
theorem d_Di_readDigits_12 : decode c_Di_readDigits 12 = .ok (.iconst 3, 1) := by decide +kernel
theorem d_Di_readDigits_13 : decode c_Di_readDigits 13 = .ok (.if_icmp .ge 50, 3) := by decide +kernel
theorem d_Di_readDigits_16 : decode c_Di_readDigits 16 = .ok (.aload_n 1, 1) := by decide +kernel
theorem d_Di_readDigits_17 : decode c_Di_readDigits 17 = .ok (.aload_n 0, 1) := by decide +kernel
theorem d_Di_readDigits_18 : decode c_Di_readDigits 18 = .ok (.getfield 14, 3) := by decide +kernel
theorem d_Di_readDigits_21 : decode c_Di_readDigits 21 = .ok (.invokevirtual 71, 3) := by decide +kernel
theorem d_Di_readDigits_24 : decode c_Di_readDigits 24 = .ok (.invokestatic 83, 3) := by decide +kernel
theorem d_Di_readDigits_27 : decode c_Di_readDigits 27 = .ok (.ifCond .eq 36, 3) := by decide +kernel
theorem d_Di_readDigits_30 : decode c_Di_readDigits 30 = .ok (.bipush 10, 2) := by decide +kernel
theorem d_Di_readDigits_32 : decode c_Di_readDigits 32 = .ok (.iload_n 3, 1) := by decide +kernel
theorem d_Di_readDigits_33 : decode c_Di_readDigits 33 = .ok (.imul, 1) := by decide +kernel
theorem d_Di_readDigits_34 : decode c_Di_readDigits 34 = .ok (.aload_n 1, 1) := by decide +kernel
theorem d_Di_readDigits_35 : decode c_Di_readDigits 35 = .ok (.aload_n 0, 1) := by decide +kernel
theorem d_Di_readDigits_36 : decode c_Di_readDigits 36 = .ok (.getfield 14, 3) := by decide +kernel
theorem d_Di_readDigits_39 : decode c_Di_readDigits 39 = .ok (.invokevirtual 71, 3) := by decide +kernel
theorem d_Di_readDigits_42 : decode c_Di_readDigits 42 = .ok (.iadd, 1) := by decide +kernel
theorem d_Di_readDigits_43 : decode c_Di_readDigits 43 = .ok (.bipush 48, 2) := by decide +kernel
theorem d_Di_readDigits_45 : decode c_Di_readDigits 45 = .ok (.isub, 1) := by decide +kernel
theorem d_Di_readDigits_46 : decode c_Di_readDigits 46 = .ok (.istore_n 3, 1) := by decide +kernel
theorem d_Di_readDigits_47 : decode c_Di_readDigits 47 = .ok (.aload_n 0, 1) := by decide +kernel
theorem d_Di_readDigits_48 : decode c_Di_readDigits 48 = .ok (.dup, 1) := by decide +kernel
theorem d_Di_readDigits_49 : decode c_Di_readDigits 49 = .ok (.getfield 14, 3) := by decide +kernel
theorem d_Di_readDigits_52 : decode c_Di_readDigits 52 = .ok (.iconst 1, 1) := by decide +kernel
theorem d_Di_readDigits_53 : decode c_Di_readDigits 53 = .ok (.iadd, 1) := by decide +kernel
theorem d_Di_readDigits_54 : decode c_Di_readDigits 54 = .ok (.putfield 14, 3) := by decide +kernel
theorem d_Di_readDigits_57 : decode c_Di_readDigits 57 = .ok (.iinc 4 1, 3) := by decide +kernel
theorem d_Di_readDigits_60 : decode c_Di_readDigits 60 = .ok (.goto (-50), 3) := by decide +kernel
theorem d_Di_readDigits_63 : decode c_Di_readDigits 63 = .ok (.iload_n 3, 1) := by decide +kernel
theorem d_Di_readDigits_64 : decode c_Di_readDigits 64 = .ok (.sipush 200, 3) := by decide +kernel
theorem d_Di_readDigits_67 : decode c_Di_readDigits 67 = .ok (.if_icmp .le 8, 3) := by decide +kernel
theorem d_Di_readDigits_70 : decode c_Di_readDigits 70 = .ok (.aload_n 0, 1) := by decide +kernel
theorem d_Di_readDigits_71 : decode c_Di_readDigits 71 = .ok (.iload_n 2, 1) := by decide +kernel
theorem d_Di_readDigits_72 : decode c_Di_readDigits 72 = .ok (.putfield 14, 3) := by decide +kernel
theorem d_Di_readDigits_75 : decode c_Di_readDigits 75 = .ok (.iload_n 3, 1) := by decide +kernel
theorem d_Di_readDigits_76 : decode c_Di_readDigits 76 = .ok (.ireturn, 1) := by decide +kernel
theorem d_Di_isDigit_0 : decode c_Di_isDigit 0 = .ok (.iload_n 0, 1) := by decide +kernel
theorem d_Di_isDigit_1 : decode c_Di_isDigit 1 = .ok (.bipush 48, 2) := by decide +kernel
theorem d_Di_isDigit_3 : decode c_Di_isDigit 3 = .ok (.if_icmp .lt 13, 3) := by decide +kernel
theorem d_Di_isDigit_6 : decode c_Di_isDigit 6 = .ok (.iload_n 0, 1) := by decide +kernel
theorem d_Di_isDigit_7 : decode c_Di_isDigit 7 = .ok (.bipush 57, 2) := by decide +kernel
theorem d_Di_isDigit_9 : decode c_Di_isDigit 9 = .ok (.if_icmp .gt 7, 3) := by decide +kernel
theorem d_Di_isDigit_12 : decode c_Di_isDigit 12 = .ok (.iconst 1, 1) := by decide +kernel
theorem d_Di_isDigit_13 : decode c_Di_isDigit 13 = .ok (.goto 4, 3) := by decide +kernel
theorem d_Di_isDigit_16 : decode c_Di_isDigit 16 = .ok (.iconst 0, 1) := by decide +kernel
theorem d_Di_isDigit_17 : decode c_Di_isDigit 17 = .ok (.ireturn, 1) := by decide +kernel
theorem d_Di_readKind_0 : decode c_Di_readKind 0 = .ok (.aload_n 1, 1) := by decide +kernel
theorem d_Di_readKind_1 : decode c_Di_readKind 1 = .ok (.aload_n 0, 1) := by decide +kernel
theorem d_Di_readKind_2 : decode c_Di_readKind 2 = .ok (.getfield 14, 3) := by decide +kernel
theorem d_Di_readKind_5 : decode c_Di_readKind 5 = .ok (.invokevirtual 71, 3) := by decide +kernel
theorem d_Di_readKind_8 : decode c_Di_readKind 8 = .ok (.i2c, 1) := by decide +kernel
theorem d_Di_readKind_9 : decode c_Di_readKind 9 = .ok (.istore_n 2, 1) := by decide +kernel
theorem d_Di_readKind_10 : decode c_Di_readKind 10 = .ok (.ldc 87, 2) := by decide +kernel
theorem d_Di_readKind_12 : decode c_Di_readKind 12 = .ok (.iload_n 2, 1) := by decide +kernel
theorem d_Di_readKind_13 : decode c_Di_readKind 13 = .ok (.invokevirtual 89, 3) := by decide +kernel
theorem d_Di_readKind_16 : decode c_Di_readKind 16 = .ok (.ifCond .ge 5, 3) := by decide +kernel
theorem d_Di_readKind_19 : decode c_Di_readKind 19 = .ok (.iconst 0, 1) := by decide +kernel
theorem d_Di_readKind_20 : decode c_Di_readKind 20 = .ok (.ireturn, 1) := by decide +kernel
theorem d_Di_readKind_21 : decode c_Di_readKind 21 = .ok (.aload_n 0, 1) := by decide +kernel
theorem d_Di_readKind_22 : decode c_Di_readKind 22 = .ok (.iload_n 2, 1) := by decide +kernel
theorem d_Di_readKind_23 : decode c_Di_readKind 23 = .ok (.bipush 65, 2) := by decide +kernel
theorem d_Di_readKind_25 : decode c_Di_readKind 25 = .ok (.if_icmp .lt 13, 3) := by decide +kernel
theorem d_Di_readKind_28 : decode c_Di_readKind 28 = .ok (.iload_n 2, 1) := by decide +kernel
theorem d_Di_readKind_29 : decode c_Di_readKind 29 = .ok (.bipush 90, 2) := by decide +kernel
theorem d_Di_readKind_31 : decode c_Di_readKind 31 = .ok (.if_icmp .gt 7, 3) := by decide +kernel
theorem d_Di_readKind_34 : decode c_Di_readKind 34 = .ok (.iconst 1, 1) := by decide +kernel
theorem d_Di_readKind_35 : decode c_Di_readKind 35 = .ok (.goto 4, 3) := by decide +kernel
theorem d_Di_readKind_38 : decode c_Di_readKind 38 = .ok (.iconst 0, 1) := by decide +kernel
theorem d_Di_readKind_39 : decode c_Di_readKind 39 = .ok (.putfield 63, 3) := by decide +kernel
theorem d_Di_readKind_42 : decode c_Di_readKind 42 = .ok (.aload_n 0, 1) := by decide +kernel
theorem d_Di_readKind_43 : decode c_Di_readKind 43 = .ok (.aload_n 0, 1) := by decide +kernel
theorem d_Di_readKind_44 : decode c_Di_readKind 44 = .ok (.getfield 63, 3) := by decide +kernel
theorem d_Di_readKind_47 : decode c_Di_readKind 47 = .ok (.ifCond .eq 13, 3) := by decide +kernel
theorem d_Di_readKind_50 : decode c_Di_readKind 50 = .ok (.iload_n 2, 1) := by decide +kernel
theorem d_Di_readKind_51 : decode c_Di_readKind 51 = .ok (.bipush 65, 2) := by decide +kernel
theorem d_Di_readKind_53 : decode c_Di_readKind 53 = .ok (.isub, 1) := by decide +kernel
theorem d_Di_readKind_54 : decode c_Di_readKind 54 = .ok (.bipush 97, 2) := by decide +kernel
theorem d_Di_readKind_56 : decode c_Di_readKind 56 = .ok (.iadd, 1) := by decide +kernel
theorem d_Di_readKind_57 : decode c_Di_readKind 57 = .ok (.goto 4, 3) := by decide +kernel
theorem d_Di_readKind_60 : decode c_Di_readKind 60 = .ok (.iload_n 2, 1) := by decide +kernel
theorem d_Di_readKind_61 : decode c_Di_readKind 61 = .ok (.putfield 60, 3) := by decide +kernel
theorem d_Di_readKind_64 : decode c_Di_readKind 64 = .ok (.iconst 1, 1) := by decide +kernel
theorem d_Di_readKind_65 : decode c_Di_readKind 65 = .ok (.ireturn, 1) := by decide +kernel
theorem d_Di_useTakenWidth_0 : decode c_Di_useTakenWidth 0 = .ok (.iload_n 1, 1) := by decide +kernel
theorem d_Di_useTakenWidth_1 : decode c_Di_useTakenWidth 1 = .ok (.ifCond .ge 8, 3) := by decide +kernel
theorem d_Di_useTakenWidth_4 : decode c_Di_useTakenWidth 4 = .ok (.aload_n 0, 1) := by decide +kernel
theorem d_Di_useTakenWidth_5 : decode c_Di_useTakenWidth 5 = .ok (.iconst 1, 1) := by decide +kernel
theorem d_Di_useTakenWidth_6 : decode c_Di_useTakenWidth 6 = .ok (.putfield 32, 3) := by decide +kernel
theorem d_Di_useTakenWidth_9 : decode c_Di_useTakenWidth 9 = .ok (.aload_n 0, 1) := by decide +kernel
theorem d_Di_useTakenWidth_10 : decode c_Di_useTakenWidth 10 = .ok (.iload_n 1, 1) := by decide +kernel
theorem d_Di_useTakenWidth_11 : decode c_Di_useTakenWidth 11 = .ok (.ifCond .ge 8, 3) := by decide +kernel
theorem d_Di_useTakenWidth_14 : decode c_Di_useTakenWidth 14 = .ok (.iload_n 1, 1) := by decide +kernel
theorem d_Di_useTakenWidth_15 : decode c_Di_useTakenWidth 15 = .ok (.ineg, 1) := by decide +kernel
theorem d_Di_useTakenWidth_16 : decode c_Di_useTakenWidth 16 = .ok (.goto 4, 3) := by decide +kernel
theorem d_Di_useTakenWidth_19 : decode c_Di_useTakenWidth 19 = .ok (.iload_n 1, 1) := by decide +kernel
theorem d_Di_useTakenWidth_20 : decode c_Di_useTakenWidth 20 = .ok (.putfield 48, 3) := by decide +kernel
theorem d_Di_useTakenWidth_23 : decode c_Di_useTakenWidth 23 = .ok (.return_, 1) := by decide +kernel
theorem d_Di_useTakenPrecision_0 : decode c_Di_useTakenPrecision 0 = .ok (.aload_n 0, 1) := by decide +kernel
theorem d_Di_useTakenPrecision_1 : decode c_Di_useTakenPrecision 1 = .ok (.iload_n 1, 1) := by decide +kernel
theorem d_Di_useTakenPrecision_2 : decode c_Di_useTakenPrecision 2 = .ok (.ifCond .ge 7, 3) := by decide +kernel
theorem d_Di_useTakenPrecision_5 : decode c_Di_useTakenPrecision 5 = .ok (.iconst (-1), 1) := by decide +kernel
theorem d_Di_useTakenPrecision_6 : decode c_Di_useTakenPrecision 6 = .ok (.goto 4, 3) := by decide +kernel
theorem d_Di_useTakenPrecision_9 : decode c_Di_useTakenPrecision 9 = .ok (.iload_n 1, 1) := by decide +kernel
theorem d_Di_useTakenPrecision_10 : decode c_Di_useTakenPrecision 10 = .ok (.putfield 54, 3) := by decide +kernel
theorem d_Di_useTakenPrecision_13 : decode c_Di_useTakenPrecision 13 = .ok (.return_, 1) := by decide +kernel
