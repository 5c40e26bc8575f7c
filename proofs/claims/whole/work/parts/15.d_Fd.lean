/-! decode rows: Fd -/
theorem d_Fd_init_0 : decode c_Fd_init 0 = .ok (.aload_n 0, 1) := by decide +kernel
theorem d_Fd_init_1 : decode c_Fd_init 1 = .ok (.invokespecial 1, 3) := by decide +kernel
theorem d_Fd_init_4 : decode c_Fd_init 4 = .ok (.aload_n 0, 1) := by decide +kernel
theorem d_Fd_init_5 : decode c_Fd_init 5 = .ok (.new 7, 3) := by decide +kernel
theorem d_Fd_init_8 : decode c_Fd_init 8 = .ok (.dup, 1) := by decide +kernel
theorem d_Fd_init_9 : decode c_Fd_init 9 = .ok (.invokespecial 9, 3) := by decide +kernel
theorem d_Fd_init_12 : decode c_Fd_init 12 = .ok (.putfield 10, 3) := by decide +kernel
theorem d_Fd_init_15 : decode c_Fd_init 15 = .ok (.aload_n 0, 1) := by decide +kernel
theorem d_Fd_init_16 : decode c_Fd_init 16 = .ok (.bipush 60, 2) := by decide +kernel
theorem d_Fd_init_18 : decode c_Fd_init 18 = .ok (.newarray .long, 2) := by decide +kernel
theorem d_Fd_init_20 : decode c_Fd_init 20 = .ok (.putfield 16, 3) := by decide +kernel
theorem d_Fd_init_23 : decode c_Fd_init 23 = .ok (.aload_n 0, 1) := by decide +kernel
theorem d_Fd_init_24 : decode c_Fd_init 24 = .ok (.iconst 0, 1) := by decide +kernel
theorem d_Fd_init_25 : decode c_Fd_init 25 = .ok (.putfield 20, 3) := by decide +kernel
theorem d_Fd_init_28 : decode c_Fd_init 28 = .ok (.aload_n 0, 1) := by decide +kernel
theorem d_Fd_init_29 : decode c_Fd_init 29 = .ok (.sipush 4000, 3) := by decide +kernel
theorem d_Fd_init_32 : decode c_Fd_init 32 = .ok (.newarray .byte, 2) := by decide +kernel
theorem d_Fd_init_34 : decode c_Fd_init 34 = .ok (.putfield 24, 3) := by decide +kernel
theorem d_Fd_init_37 : decode c_Fd_init 37 = .ok (.aload_n 0, 1) := by decide +kernel
theorem d_Fd_init_38 : decode c_Fd_init 38 = .ok (.iconst 0, 1) := by decide +kernel
theorem d_Fd_init_39 : decode c_Fd_init 39 = .ok (.putfield 28, 3) := by decide +kernel
theorem d_Fd_init_42 : decode c_Fd_init 42 = .ok (.aload_n 0, 1) := by decide +kernel
theorem d_Fd_init_43 : decode c_Fd_init 43 = .ok (.iconst (-1), 1) := by decide +kernel
theorem d_Fd_init_44 : decode c_Fd_init 44 = .ok (.putfield 31, 3) := by decide +kernel
theorem d_Fd_init_47 : decode c_Fd_init 47 = .ok (.aload_n 0, 1) := by decide +kernel
theorem d_Fd_init_48 : decode c_Fd_init 48 = .ok (.iconst 0, 1) := by decide +kernel
theorem d_Fd_init_49 : decode c_Fd_init 49 = .ok (.putfield 34, 3) := by decide +kernel
theorem d_Fd_init_52 : decode c_Fd_init 52 = .ok (.aload_n 0, 1) := by decide +kernel
theorem d_Fd_init_53 : decode c_Fd_init 53 = .ok (.iconst 0, 1) := by decide +kernel
theorem d_Fd_init_54 : decode c_Fd_init 54 = .ok (.putfield 37, 3) := by decide +kernel
theorem d_Fd_init_57 : decode c_Fd_init 57 = .ok (.aload_n 0, 1) := by decide +kernel
theorem d_Fd_init_58 : decode c_Fd_init 58 = .ok (.new 40, 3) := by decide +kernel
theorem d_Fd_init_61 : decode c_Fd_init 61 = .ok (.dup, 1) := by decide +kernel
theorem d_Fd_init_62 : decode c_Fd_init 62 = .ok (.invokespecial 42, 3) := by decide +kernel
theorem d_Fd_init_65 : decode c_Fd_init 65 = .ok (.putfield 43, 3) := by decide +kernel
theorem d_Fd_init_68 : decode c_Fd_init 68 = .ok (.aload_n 0, 1) := by decide +kernel
theorem d_Fd_init_69 : decode c_Fd_init 69 = .ok (.new 47, 3) := by decide +kernel
theorem d_Fd_init_72 : decode c_Fd_init 72 = .ok (.dup, 1) := by decide +kernel
theorem d_Fd_init_73 : decode c_Fd_init 73 = .ok (.invokespecial 49, 3) := by decide +kernel
theorem d_Fd_init_76 : decode c_Fd_init 76 = .ok (.putfield 50, 3) := by decide +kernel
theorem d_Fd_init_79 : decode c_Fd_init 79 = .ok (.return_, 1) := by decide +kernel
theorem d_Fd_text_0 : decode c_Fd_text 0 = .ok (.lload_n 1, 1) := by decide +kernel
theorem d_Fd_text_1 : decode c_Fd_text 1 = .ok (.invokestatic 54, 3) := by decide +kernel
theorem d_Fd_text_4 : decode c_Fd_text 4 = .ok (.istore_n 3, 1) := by decide +kernel
theorem d_Fd_text_5 : decode c_Fd_text 5 = .ok (.aload_n 0, 1) := by decide +kernel
theorem d_Fd_text_6 : decode c_Fd_text 6 = .ok (.getfield 10, 3) := by decide +kernel
theorem d_Fd_text_9 : decode c_Fd_text 9 = .ok (.getfield 58, 3) := by decide +kernel
theorem d_Fd_text_12 : decode c_Fd_text 12 = .ok (.iload_n 3, 1) := by decide +kernel
theorem d_Fd_text_13 : decode c_Fd_text 13 = .ok (.iadd, 1) := by decide +kernel
theorem d_Fd_text_14 : decode c_Fd_text 14 = .ok (.sipush 400, 3) := by decide +kernel
theorem d_Fd_text_17 : decode c_Fd_text 17 = .ok (.if_icmp .le 11, 3) := by decide +kernel
theorem d_Fd_text_20 : decode c_Fd_text 20 = .ok (.new 61, 3) := by decide +kernel
theorem d_Fd_text_23 : decode c_Fd_text 23 = .ok (.dup, 1) := by decide +kernel
theorem d_Fd_text_24 : decode c_Fd_text 24 = .ok (.invokespecial 63, 3) := by decide +kernel
theorem d_Fd_text_27 : decode c_Fd_text 27 = .ok (.athrow, 1) := by decide +kernel
theorem d_Fd_text_28 : decode c_Fd_text 28 = .ok (.aload_n 0, 1) := by decide +kernel
theorem d_Fd_text_29 : decode c_Fd_text 29 = .ok (.getfield 10, 3) := by decide +kernel
theorem d_Fd_text_32 : decode c_Fd_text 32 = .ok (.lload_n 1, 1) := by decide +kernel
theorem d_Fd_text_33 : decode c_Fd_text 33 = .ok (.iload_n 3, 1) := by decide +kernel
theorem d_Fd_text_34 : decode c_Fd_text 34 = .ok (.invokevirtual 64, 3) := by decide +kernel
theorem d_Fd_text_37 : decode c_Fd_text 37 = .ok (.aload_n 0, 1) := by decide +kernel
theorem d_Fd_text_38 : decode c_Fd_text 38 = .ok (.getfield 10, 3) := by decide +kernel
theorem d_Fd_text_41 : decode c_Fd_text 41 = .ok (.getfield 58, 3) := by decide +kernel
theorem d_Fd_text_44 : decode c_Fd_text 44 = .ok (.ireturn, 1) := by decide +kernel
theorem d_Fd_argument_0 : decode c_Fd_argument 0 = .ok (.aload_n 0, 1) := by decide +kernel
theorem d_Fd_argument_1 : decode c_Fd_argument 1 = .ok (.getfield 20, 3) := by decide +kernel
theorem d_Fd_argument_4 : decode c_Fd_argument 4 = .ok (.bipush 60, 2) := by decide +kernel
theorem d_Fd_argument_6 : decode c_Fd_argument 6 = .ok (.if_icmp .lt 11, 3) := by decide +kernel
theorem d_Fd_argument_9 : decode c_Fd_argument 9 = .ok (.new 61, 3) := by decide +kernel
theorem d_Fd_argument_12 : decode c_Fd_argument 12 = .ok (.dup, 1) := by decide +kernel
theorem d_Fd_argument_13 : decode c_Fd_argument 13 = .ok (.invokespecial 63, 3) := by decide +kernel
theorem d_Fd_argument_16 : decode c_Fd_argument 16 = .ok (.athrow, 1) := by decide +kernel
theorem d_Fd_argument_17 : decode c_Fd_argument 17 = .ok (.aload_n 0, 1) := by decide +kernel
theorem d_Fd_argument_18 : decode c_Fd_argument 18 = .ok (.getfield 16, 3) := by decide +kernel
theorem d_Fd_argument_21 : decode c_Fd_argument 21 = .ok (.aload_n 0, 1) := by decide +kernel
theorem d_Fd_argument_22 : decode c_Fd_argument 22 = .ok (.getfield 20, 3) := by decide +kernel
theorem d_Fd_argument_25 : decode c_Fd_argument 25 = .ok (.lload_n 1, 1) := by decide +kernel
theorem d_Fd_argument_26 : decode c_Fd_argument 26 = .ok (.lastore, 1) := by decide +kernel
theorem d_Fd_argument_27 : decode c_Fd_argument 27 = .ok (.aload_n 0, 1) := by decide +kernel
theorem d_Fd_argument_28 : decode c_Fd_argument 28 = .ok (.dup, 1) := by decide +kernel
theorem d_Fd_argument_29 : decode c_Fd_argument 29 = .ok (.getfield 20, 3) := by decide +kernel
theorem d_Fd_argument_32 : decode c_Fd_argument 32 = .ok (.iconst 1, 1) := by decide +kernel
theorem d_Fd_argument_33 : decode c_Fd_argument 33 = .ok (.iadd, 1) := by decide +kernel
theorem d_Fd_argument_34 : decode c_Fd_argument 34 = .ok (.putfield 20, 3) := by decide +kernel
theorem d_Fd_argument_37 : decode c_Fd_argument 37 = .ok (.aload_n 0, 1) := by decide +kernel
theorem d_Fd_argument_38 : decode c_Fd_argument 38 = .ok (.getfield 20, 3) := by decide +kernel
theorem d_Fd_argument_41 : decode c_Fd_argument 41 = .ok (.ireturn, 1) := by decide +kernel
theorem d_Fd_clear_0 : decode c_Fd_clear 0 = .ok (.aload_n 0, 1) := by decide +kernel
theorem d_Fd_clear_1 : decode c_Fd_clear 1 = .ok (.getfield 10, 3) := by decide +kernel
theorem d_Fd_clear_4 : decode c_Fd_clear 4 = .ok (.iconst 0, 1) := by decide +kernel
theorem d_Fd_clear_5 : decode c_Fd_clear 5 = .ok (.putfield 58, 3) := by decide +kernel
theorem d_Fd_clear_8 : decode c_Fd_clear 8 = .ok (.aload_n 0, 1) := by decide +kernel
theorem d_Fd_clear_9 : decode c_Fd_clear 9 = .ok (.iconst 0, 1) := by decide +kernel
theorem d_Fd_clear_10 : decode c_Fd_clear 10 = .ok (.putfield 20, 3) := by decide +kernel
theorem d_Fd_clear_13 : decode c_Fd_clear 13 = .ok (.return_, 1) := by decide +kernel
theorem d_Fd_run_0 : decode c_Fd_run 0 = .ok (.aload_n 0, 1) := by decide +kernel
theorem d_Fd_run_1 : decode c_Fd_run 1 = .ok (.invokevirtual 68, 3) := by decide +kernel
theorem d_Fd_run_4 : decode c_Fd_run 4 = .ok (.aload_n 0, 1) := by decide +kernel
theorem d_Fd_run_5 : decode c_Fd_run 5 = .ok (.aload_n 0, 1) := by decide +kernel
theorem d_Fd_run_6 : decode c_Fd_run 6 = .ok (.invokevirtual 71, 3) := by decide +kernel
theorem d_Fd_run_9 : decode c_Fd_run 9 = .ok (.putfield 31, 3) := by decide +kernel
theorem d_Fd_run_12 : decode c_Fd_run 12 = .ok (.aload_n 0, 1) := by decide +kernel
theorem d_Fd_run_13 : decode c_Fd_run 13 = .ok (.getfield 31, 3) := by decide +kernel
theorem d_Fd_run_16 : decode c_Fd_run 16 = .ok (.iconst (-1), 1) := by decide +kernel
theorem d_Fd_run_17 : decode c_Fd_run 17 = .ok (.if_icmp .eq 11, 3) := by decide +kernel
theorem d_Fd_run_20 : decode c_Fd_run 20 = .ok (.new 75, 3) := by decide +kernel
theorem d_Fd_run_23 : decode c_Fd_run 23 = .ok (.dup, 1) := by decide +kernel
theorem d_Fd_run_24 : decode c_Fd_run 24 = .ok (.invokespecial 77, 3) := by decide +kernel
theorem d_Fd_run_27 : decode c_Fd_run 27 = .ok (.athrow, 1) := by decide +kernel
theorem d_Fd_run_28 : decode c_Fd_run 28 = .ok (.aload_n 0, 1) := by decide +kernel
theorem d_Fd_run_29 : decode c_Fd_run 29 = .ok (.invokevirtual 78, 3) := by decide +kernel
theorem d_Fd_run_32 : decode c_Fd_run 32 = .ok (.ifCond .ne 15, 3) := by decide +kernel
theorem d_Fd_run_35 : decode c_Fd_run 35 = .ok (.aload_n 0, 1) := by decide +kernel
theorem d_Fd_run_36 : decode c_Fd_run 36 = .ok (.invokevirtual 68, 3) := by decide +kernel
theorem d_Fd_run_39 : decode c_Fd_run 39 = .ok (.new 82, 3) := by decide +kernel
theorem d_Fd_run_42 : decode c_Fd_run 42 = .ok (.dup, 1) := by decide +kernel
theorem d_Fd_run_43 : decode c_Fd_run 43 = .ok (.invokespecial 84, 3) := by decide +kernel
theorem d_Fd_run_46 : decode c_Fd_run 46 = .ok (.athrow, 1) := by decide +kernel
theorem d_Fd_run_47 : decode c_Fd_run 47 = .ok (.aload_n 0, 1) := by decide +kernel
theorem d_Fd_run_48 : decode c_Fd_run 48 = .ok (.getfield 28, 3) := by decide +kernel
theorem d_Fd_run_51 : decode c_Fd_run 51 = .ok (.ireturn, 1) := by decide +kernel
theorem d_Fd_wrong_0 : decode c_Fd_wrong 0 = .ok (.aload_n 0, 1) := by decide +kernel
theorem d_Fd_wrong_1 : decode c_Fd_wrong 1 = .ok (.getfield 31, 3) := by decide +kernel
theorem d_Fd_wrong_4 : decode c_Fd_wrong 4 = .ok (.ireturn, 1) := by decide +kernel
theorem d_Fd_letters_0 : decode c_Fd_letters 0 = .ok (.iload_n 1, 1) := by decide +kernel
theorem d_Fd_letters_1 : decode c_Fd_letters 1 = .ok (.ifCond .lt 17, 3) := by decide +kernel
theorem d_Fd_letters_4 : decode c_Fd_letters 4 = .ok (.iload_n 1, 1) := by decide +kernel
theorem d_Fd_letters_5 : decode c_Fd_letters 5 = .ok (.aload_n 0, 1) := by decide +kernel
theorem d_Fd_letters_6 : decode c_Fd_letters 6 = .ok (.getfield 28, 3) := by decide +kernel
theorem d_Fd_letters_9 : decode c_Fd_letters 9 = .ok (.bipush 7, 2) := by decide +kernel
theorem d_Fd_letters_11 : decode c_Fd_letters 11 = .ok (.iadd, 1) := by decide +kernel
theorem d_Fd_letters_12 : decode c_Fd_letters 12 = .ok (.bipush 8, 2) := by decide +kernel
theorem d_Fd_letters_14 : decode c_Fd_letters 14 = .ok (.idiv, 1) := by decide +kernel
theorem d_Fd_letters_15 : decode c_Fd_letters 15 = .ok (.if_icmp .lt 11, 3) := by decide +kernel
theorem d_Fd_letters_18 : decode c_Fd_letters 18 = .ok (.new 61, 3) := by decide +kernel
theorem d_Fd_letters_21 : decode c_Fd_letters 21 = .ok (.dup, 1) := by decide +kernel
theorem d_Fd_letters_22 : decode c_Fd_letters 22 = .ok (.invokespecial 63, 3) := by decide +kernel
theorem d_Fd_letters_25 : decode c_Fd_letters 25 = .ok (.athrow, 1) := by decide +kernel
theorem d_Fd_letters_26 : decode c_Fd_letters 26 = .ok (.lconst 0, 1) := by decide +kernel
theorem d_Fd_letters_27 : decode c_Fd_letters 27 = .ok (.lstore_n 2, 1) := by decide +kernel
theorem d_Fd_letters_28 : decode c_Fd_letters 28 = .ok (.bipush 8, 2) := by decide +kernel
theorem d_Fd_letters_30 : decode c_Fd_letters 30 = .ok (.iload_n 1, 1) := by decide +kernel
theorem d_Fd_letters_31 : decode c_Fd_letters 31 = .ok (.imul, 1) := by decide +kernel
theorem d_Fd_letters_32 : decode c_Fd_letters 32 = .ok (.istore 4, 2) := by decide +kernel
theorem d_Fd_letters_34 : decode c_Fd_letters 34 = .ok (.iload 4, 2) := by decide +kernel
theorem d_Fd_letters_36 : decode c_Fd_letters 36 = .ok (.bipush 8, 2) := by decide +kernel
theorem d_Fd_letters_38 : decode c_Fd_letters 38 = .ok (.iload_n 1, 1) := by decide +kernel
theorem d_Fd_letters_39 : decode c_Fd_letters 39 = .ok (.imul, 1) := by decide +kernel
theorem d_Fd_letters_40 : decode c_Fd_letters 40 = .ok (.bipush 8, 2) := by decide +kernel
theorem d_Fd_letters_42 : decode c_Fd_letters 42 = .ok (.iadd, 1) := by decide +kernel
theorem d_Fd_letters_43 : decode c_Fd_letters 43 = .ok (.if_icmp .ge 36, 3) := by decide +kernel
theorem d_Fd_letters_46 : decode c_Fd_letters 46 = .ok (.lload_n 2, 1) := by decide +kernel
theorem d_Fd_letters_47 : decode c_Fd_letters 47 = .ok (.bipush 8, 2) := by decide +kernel
theorem d_Fd_letters_49 : decode c_Fd_letters 49 = .ok (.lshl, 1) := by decide +kernel
theorem d_Fd_letters_50 : decode c_Fd_letters 50 = .ok (.iload 4, 2) := by decide +kernel
theorem d_Fd_letters_52 : decode c_Fd_letters 52 = .ok (.aload_n 0, 1) := by decide +kernel
theorem d_Fd_letters_53 : decode c_Fd_letters 53 = .ok (.getfield 28, 3) := by decide +kernel
theorem d_Fd_letters_56 : decode c_Fd_letters 56 = .ok (.if_icmp .ge 13, 3) := by decide +kernel
theorem d_Fd_letters_59 : decode c_Fd_letters 59 = .ok (.aload_n 0, 1) := by decide +kernel
theorem d_Fd_letters_60 : decode c_Fd_letters 60 = .ok (.getfield 24, 3) := by decide +kernel
theorem d_Fd_letters_63 : decode c_Fd_letters 63 = .ok (.iload 4, 2) := by decide +kernel
theorem d_Fd_letters_65 : decode c_Fd_letters 65 = .ok (.baload, 1) := by decide +kernel
theorem d_Fd_letters_66 : decode c_Fd_letters 66 = .ok (.goto 4, 3) := by decide +kernel
theorem d_Fd_letters_69 : decode c_Fd_letters 69 = .ok (.iconst 0, 1) := by decide +kernel
theorem d_Fd_letters_70 : decode c_Fd_letters 70 = .ok (.i2l, 1) := by decide +kernel
theorem d_Fd_letters_71 : decode c_Fd_letters 71 = .ok (.lor, 1) := by decide +kernel
theorem d_Fd_letters_72 : decode c_Fd_letters 72 = .ok (.lstore_n 2, 1) := by decide +kernel
theorem d_Fd_letters_73 : decode c_Fd_letters 73 = .ok (.iinc 4 1, 3) := by decide +kernel
theorem d_Fd_letters_76 : decode c_Fd_letters 76 = .ok (.goto (-42), 3) := by decide +kernel
theorem d_Fd_letters_79 : decode c_Fd_letters 79 = .ok (.lload_n 2, 1) := by decide +kernel
theorem d_Fd_letters_80 : decode c_Fd_letters 80 = .ok (.lreturn, 1) := by decide +kernel
theorem d_Fd_count_0 : decode c_Fd_count 0 = .ok (.iload_n 1, 1) := by decide +kernel
theorem d_Fd_count_1 : decode c_Fd_count 1 = .ok (.tableswitch 63 0 4 #[35, 43, 48, 53, 58], 35) := by decide +kernel
theorem d_Fd_count_36 : decode c_Fd_count 36 = .ok (.aload_n 0, 1) := by decide +kernel
theorem d_Fd_count_37 : decode c_Fd_count 37 = .ok (.getfield 10, 3) := by decide +kernel
theorem d_Fd_count_40 : decode c_Fd_count 40 = .ok (.getfield 58, 3) := by decide +kernel
theorem d_Fd_count_43 : decode c_Fd_count 43 = .ok (.ireturn, 1) := by decide +kernel
theorem d_Fd_count_44 : decode c_Fd_count 44 = .ok (.aload_n 0, 1) := by decide +kernel
theorem d_Fd_count_45 : decode c_Fd_count 45 = .ok (.getfield 20, 3) := by decide +kernel
theorem d_Fd_count_48 : decode c_Fd_count 48 = .ok (.ireturn, 1) := by decide +kernel
theorem d_Fd_count_49 : decode c_Fd_count 49 = .ok (.aload_n 0, 1) := by decide +kernel
theorem d_Fd_count_50 : decode c_Fd_count 50 = .ok (.getfield 34, 3) := by decide +kernel
theorem d_Fd_count_53 : decode c_Fd_count 53 = .ok (.ireturn, 1) := by decide +kernel
theorem d_Fd_count_54 : decode c_Fd_count 54 = .ok (.aload_n 0, 1) := by decide +kernel
theorem d_Fd_count_55 : decode c_Fd_count 55 = .ok (.getfield 37, 3) := by decide +kernel
theorem d_Fd_count_58 : decode c_Fd_count 58 = .ok (.ireturn, 1) := by decide +kernel
theorem d_Fd_count_59 : decode c_Fd_count 59 = .ok (.aload_n 0, 1) := by decide +kernel
theorem d_Fd_count_60 : decode c_Fd_count 60 = .ok (.getfield 28, 3) := by decide +kernel
theorem d_Fd_count_63 : decode c_Fd_count 63 = .ok (.ireturn, 1) := by decide +kernel
theorem d_Fd_count_64 : decode c_Fd_count 64 = .ok (.new 75, 3) := by decide +kernel
theorem d_Fd_count_67 : decode c_Fd_count 67 = .ok (.dup, 1) := by decide +kernel
theorem d_Fd_count_68 : decode c_Fd_count 68 = .ok (.invokespecial 77, 3) := by decide +kernel
theorem d_Fd_count_71 : decode c_Fd_count 71 = .ok (.athrow, 1) := by decide +kernel
theorem d_Fd_forgetLatestRun_0 : decode c_Fd_forgetLatestRun 0 = .ok (.aload_n 0, 1) := by decide +kernel
theorem d_Fd_forgetLatestRun_1 : decode c_Fd_forgetLatestRun 1 = .ok (.iconst 0, 1) := by decide +kernel
theorem d_Fd_forgetLatestRun_2 : decode c_Fd_forgetLatestRun 2 = .ok (.putfield 28, 3) := by decide +kernel
theorem d_Fd_forgetLatestRun_5 : decode c_Fd_forgetLatestRun 5 = .ok (.aload_n 0, 1) := by decide +kernel
theorem d_Fd_forgetLatestRun_6 : decode c_Fd_forgetLatestRun 6 = .ok (.iconst (-1), 1) := by decide +kernel
theorem d_Fd_forgetLatestRun_7 : decode c_Fd_forgetLatestRun 7 = .ok (.putfield 31, 3) := by decide +kernel
theorem d_Fd_forgetLatestRun_10 : decode c_Fd_forgetLatestRun 10 = .ok (.aload_n 0, 1) := by decide +kernel
theorem d_Fd_forgetLatestRun_11 : decode c_Fd_forgetLatestRun 11 = .ok (.iconst 0, 1) := by decide +kernel
theorem d_Fd_forgetLatestRun_12 : decode c_Fd_forgetLatestRun 12 = .ok (.putfield 34, 3) := by decide +kernel
theorem d_Fd_forgetLatestRun_15 : decode c_Fd_forgetLatestRun 15 = .ok (.aload_n 0, 1) := by decide +kernel
theorem d_Fd_forgetLatestRun_16 : decode c_Fd_forgetLatestRun 16 = .ok (.iconst 0, 1) := by decide +kernel
theorem d_Fd_forgetLatestRun_17 : decode c_Fd_forgetLatestRun 17 = .ok (.putfield 37, 3) := by decide +kernel
theorem d_Fd_forgetLatestRun_20 : decode c_Fd_forgetLatestRun 20 = .ok (.return_, 1) := by decide +kernel
theorem d_Fd_placeOfWrong_0 : decode c_Fd_placeOfWrong 0 = .ok (.aload_n 0, 1) := by decide +kernel
theorem d_Fd_placeOfWrong_1 : decode c_Fd_placeOfWrong 1 = .ok (.getfield 10, 3) := by decide +kernel
theorem d_Fd_placeOfWrong_4 : decode c_Fd_placeOfWrong 4 = .ok (.invokevirtual 85, 3) := by decide +kernel
theorem d_Fd_placeOfWrong_7 : decode c_Fd_placeOfWrong 7 = .ok (.istore_n 1, 1) := by decide +kernel
theorem d_Fd_placeOfWrong_8 : decode c_Fd_placeOfWrong 8 = .ok (.iload_n 1, 1) := by decide +kernel
theorem d_Fd_placeOfWrong_9 : decode c_Fd_placeOfWrong 9 = .ok (.iconst (-1), 1) := by decide +kernel
theorem d_Fd_placeOfWrong_10 : decode c_Fd_placeOfWrong 10 = .ok (.if_icmp .eq 5, 3) := by decide +kernel
theorem d_Fd_placeOfWrong_13 : decode c_Fd_placeOfWrong 13 = .ok (.iload_n 1, 1) := by decide +kernel
theorem d_Fd_placeOfWrong_14 : decode c_Fd_placeOfWrong 14 = .ok (.ireturn, 1) := by decide +kernel
theorem d_Fd_placeOfWrong_15 : decode c_Fd_placeOfWrong 15 = .ok (.iconst 0, 1) := by decide +kernel
theorem d_Fd_placeOfWrong_16 : decode c_Fd_placeOfWrong 16 = .ok (.istore_n 2, 1) := by decide +kernel
theorem d_Fd_placeOfWrong_17 : decode c_Fd_placeOfWrong 17 = .ok (.iload_n 2, 1) := by decide +kernel
theorem d_Fd_placeOfWrong_18 : decode c_Fd_placeOfWrong 18 = .ok (.aload_n 0, 1) := by decide +kernel
theorem d_Fd_placeOfWrong_19 : decode c_Fd_placeOfWrong 19 = .ok (.getfield 10, 3) := by decide +kernel
theorem d_Fd_placeOfWrong_22 : decode c_Fd_placeOfWrong 22 = .ok (.getfield 58, 3) := by decide +kernel
theorem d_Fd_placeOfWrong_25 : decode c_Fd_placeOfWrong 25 = .ok (.if_icmp .ge 57, 3) := by decide +kernel
theorem d_Fd_placeOfWrong_28 : decode c_Fd_placeOfWrong 28 = .ok (.aload_n 0, 1) := by decide +kernel
theorem d_Fd_placeOfWrong_29 : decode c_Fd_placeOfWrong 29 = .ok (.getfield 10, 3) := by decide +kernel
theorem d_Fd_placeOfWrong_32 : decode c_Fd_placeOfWrong 32 = .ok (.iload_n 2, 1) := by decide +kernel
theorem d_Fd_placeOfWrong_33 : decode c_Fd_placeOfWrong 33 = .ok (.invokevirtual 88, 3) := by decide +kernel
theorem d_Fd_placeOfWrong_36 : decode c_Fd_placeOfWrong 36 = .ok (.bipush 37, 2) := by decide +kernel
theorem d_Fd_placeOfWrong_38 : decode c_Fd_placeOfWrong 38 = .ok (.if_icmp .ne 38, 3) := by decide +kernel
theorem d_Fd_placeOfWrong_41 : decode c_Fd_placeOfWrong 41 = .ok (.aload_n 0, 1) := by decide +kernel
theorem d_Fd_placeOfWrong_42 : decode c_Fd_placeOfWrong 42 = .ok (.getfield 43, 3) := by decide +kernel
theorem d_Fd_placeOfWrong_45 : decode c_Fd_placeOfWrong 45 = .ok (.aload_n 0, 1) := by decide +kernel
theorem d_Fd_placeOfWrong_46 : decode c_Fd_placeOfWrong 46 = .ok (.getfield 10, 3) := by decide +kernel
theorem d_Fd_placeOfWrong_49 : decode c_Fd_placeOfWrong 49 = .ok (.iload_n 2, 1) := by decide +kernel
theorem d_Fd_placeOfWrong_50 : decode c_Fd_placeOfWrong 50 = .ok (.invokevirtual 92, 3) := by decide +kernel
theorem d_Fd_placeOfWrong_53 : decode c_Fd_placeOfWrong 53 = .ok (.ifCond .ne 11, 3) := by decide +kernel
theorem d_Fd_placeOfWrong_56 : decode c_Fd_placeOfWrong 56 = .ok (.aload_n 0, 1) := by decide +kernel
theorem d_Fd_placeOfWrong_57 : decode c_Fd_placeOfWrong 57 = .ok (.getfield 43, 3) := by decide +kernel
theorem d_Fd_placeOfWrong_60 : decode c_Fd_placeOfWrong 60 = .ok (.getfield 96, 3) := by decide +kernel
theorem d_Fd_placeOfWrong_63 : decode c_Fd_placeOfWrong 63 = .ok (.ireturn, 1) := by decide +kernel
theorem d_Fd_placeOfWrong_64 : decode c_Fd_placeOfWrong 64 = .ok (.iload_n 2, 1) := by decide +kernel
theorem d_Fd_placeOfWrong_65 : decode c_Fd_placeOfWrong 65 = .ok (.aload_n 0, 1) := by decide +kernel
theorem d_Fd_placeOfWrong_66 : decode c_Fd_placeOfWrong 66 = .ok (.getfield 43, 3) := by decide +kernel
theorem d_Fd_placeOfWrong_69 : decode c_Fd_placeOfWrong 69 = .ok (.getfield 96, 3) := by decide +kernel
theorem d_Fd_placeOfWrong_72 : decode c_Fd_placeOfWrong 72 = .ok (.invokestatic 99, 3) := by decide +kernel
theorem d_Fd_placeOfWrong_75 : decode c_Fd_placeOfWrong 75 = .ok (.istore_n 2, 1) := by decide +kernel
theorem d_Fd_placeOfWrong_76 : decode c_Fd_placeOfWrong 76 = .ok (.iinc 2 1, 3) := by decide +kernel
theorem d_Fd_placeOfWrong_79 : decode c_Fd_placeOfWrong 79 = .ok (.goto (-62), 3) := by decide +kernel
theorem d_Fd_placeOfWrong_82 : decode c_Fd_placeOfWrong 82 = .ok (.iconst (-1), 1) := by decide +kernel
theorem d_Fd_placeOfWrong_83 : decode c_Fd_placeOfWrong 83 = .ok (.ireturn, 1) := by decide +kernel
theorem d_Fd_putOutAll_0 : decode c_Fd_putOutAll 0 = .ok (.iconst 0, 1) := by decide +kernel
theorem d_Fd_putOutAll_1 : decode c_Fd_putOutAll 1 = .ok (.istore_n 1, 1) := by decide +kernel
theorem d_Fd_putOutAll_2 : decode c_Fd_putOutAll 2 = .ok (.iload_n 1, 1) := by decide +kernel
theorem d_Fd_putOutAll_3 : decode c_Fd_putOutAll 3 = .ok (.aload_n 0, 1) := by decide +kernel
theorem d_Fd_putOutAll_4 : decode c_Fd_putOutAll 4 = .ok (.getfield 10, 3) := by decide +kernel
theorem d_Fd_putOutAll_7 : decode c_Fd_putOutAll 7 = .ok (.getfield 58, 3) := by decide +kernel
theorem d_Fd_putOutAll_10 : decode c_Fd_putOutAll 10 = .ok (.if_icmp .ge 126, 3) := by decide +kernel
theorem d_Fd_putOutAll_13 : decode c_Fd_putOutAll 13 = .ok (.aload_n 0, 1) := by decide +kernel
theorem d_Fd_putOutAll_14 : decode c_Fd_putOutAll 14 = .ok (.getfield 10, 3) := by decide +kernel
theorem d_Fd_putOutAll_17 : decode c_Fd_putOutAll 17 = .ok (.iload_n 1, 1) := by decide +kernel
theorem d_Fd_putOutAll_18 : decode c_Fd_putOutAll 18 = .ok (.invokevirtual 88, 3) := by decide +kernel
theorem d_Fd_putOutAll_21 : decode c_Fd_putOutAll 21 = .ok (.bipush 37, 2) := by decide +kernel
theorem d_Fd_putOutAll_23 : decode c_Fd_putOutAll 23 = .ok (.if_icmp .ne 88, 3) := by decide +kernel
theorem d_Fd_putOutAll_26 : decode c_Fd_putOutAll 26 = .ok (.aload_n 0, 1) := by decide +kernel
theorem d_Fd_putOutAll_27 : decode c_Fd_putOutAll 27 = .ok (.getfield 43, 3) := by decide +kernel
theorem d_Fd_putOutAll_30 : decode c_Fd_putOutAll 30 = .ok (.aload_n 0, 1) := by decide +kernel
theorem d_Fd_putOutAll_31 : decode c_Fd_putOutAll 31 = .ok (.getfield 10, 3) := by decide +kernel
theorem d_Fd_putOutAll_34 : decode c_Fd_putOutAll 34 = .ok (.iload_n 1, 1) := by decide +kernel
theorem d_Fd_putOutAll_35 : decode c_Fd_putOutAll 35 = .ok (.invokevirtual 92, 3) := by decide +kernel
theorem d_Fd_putOutAll_38 : decode c_Fd_putOutAll 38 = .ok (.pop, 1) := by decide +kernel
theorem d_Fd_putOutAll_39 : decode c_Fd_putOutAll 39 = .ok (.iload_n 1, 1) := by decide +kernel
theorem d_Fd_putOutAll_40 : decode c_Fd_putOutAll 40 = .ok (.aload_n 0, 1) := by decide +kernel
theorem d_Fd_putOutAll_41 : decode c_Fd_putOutAll 41 = .ok (.getfield 43, 3) := by decide +kernel
theorem d_Fd_putOutAll_44 : decode c_Fd_putOutAll 44 = .ok (.getfield 96, 3) := by decide +kernel
theorem d_Fd_putOutAll_47 : decode c_Fd_putOutAll 47 = .ok (.invokestatic 99, 3) := by decide +kernel
theorem d_Fd_putOutAll_50 : decode c_Fd_putOutAll 50 = .ok (.istore_n 1, 1) := by decide +kernel
theorem d_Fd_putOutAll_51 : decode c_Fd_putOutAll 51 = .ok (.aload_n 0, 1) := by decide +kernel
theorem d_Fd_putOutAll_52 : decode c_Fd_putOutAll 52 = .ok (.invokevirtual 105, 3) := by decide +kernel
theorem d_Fd_putOutAll_55 : decode c_Fd_putOutAll 55 = .ok (.aload_n 0, 1) := by decide +kernel
theorem d_Fd_putOutAll_56 : decode c_Fd_putOutAll 56 = .ok (.getfield 50, 3) := by decide +kernel
theorem d_Fd_putOutAll_59 : decode c_Fd_putOutAll 59 = .ok (.aload_n 0, 1) := by decide +kernel
theorem d_Fd_putOutAll_60 : decode c_Fd_putOutAll 60 = .ok (.getfield 43, 3) := by decide +kernel
theorem d_Fd_putOutAll_63 : decode c_Fd_putOutAll 63 = .ok (.getfield 108, 3) := by decide +kernel
theorem d_Fd_putOutAll_66 : decode c_Fd_putOutAll 66 = .ok (.bipush 37, 2) := by decide +kernel
theorem d_Fd_putOutAll_68 : decode c_Fd_putOutAll 68 = .ok (.if_icmp .ne 7, 3) := by decide +kernel
theorem d_Fd_putOutAll_71 : decode c_Fd_putOutAll 71 = .ok (.lconst 0, 1) := by decide +kernel
theorem d_Fd_putOutAll_72 : decode c_Fd_putOutAll 72 = .ok (.goto 7, 3) := by decide +kernel
theorem d_Fd_putOutAll_75 : decode c_Fd_putOutAll 75 = .ok (.aload_n 0, 1) := by decide +kernel
theorem d_Fd_putOutAll_76 : decode c_Fd_putOutAll 76 = .ok (.invokevirtual 111, 3) := by decide +kernel
theorem d_Fd_putOutAll_79 : decode c_Fd_putOutAll 79 = .ok (.aload_n 0, 1) := by decide +kernel
theorem d_Fd_putOutAll_80 : decode c_Fd_putOutAll 80 = .ok (.getfield 43, 3) := by decide +kernel
theorem d_Fd_putOutAll_83 : decode c_Fd_putOutAll 83 = .ok (.invokevirtual 115, 3) := by decide +kernel
theorem d_Fd_putOutAll_86 : decode c_Fd_putOutAll 86 = .ok (.aload_n 0, 1) := by decide +kernel
theorem d_Fd_putOutAll_87 : decode c_Fd_putOutAll 87 = .ok (.aload_n 0, 1) := by decide +kernel
theorem d_Fd_putOutAll_88 : decode c_Fd_putOutAll 88 = .ok (.getfield 50, 3) := by decide +kernel
theorem d_Fd_putOutAll_91 : decode c_Fd_putOutAll 91 = .ok (.getfield 119, 3) := by decide +kernel
theorem d_Fd_putOutAll_94 : decode c_Fd_putOutAll 94 = .ok (.invokevirtual 123, 3) := by decide +kernel
theorem d_Fd_putOutAll_97 : decode c_Fd_putOutAll 97 = .ok (.istore_n 2, 1) := by decide +kernel
theorem d_Fd_putOutAll_98 : decode c_Fd_putOutAll 98 = .ok (.aload_n 0, 1) := by decide +kernel
theorem d_Fd_putOutAll_99 : decode c_Fd_putOutAll 99 = .ok (.dup, 1) := by decide +kernel
theorem d_Fd_putOutAll_100 : decode c_Fd_putOutAll 100 = .ok (.getfield 37, 3) := by decide +kernel
theorem d_Fd_putOutAll_103 : decode c_Fd_putOutAll 103 = .ok (.iconst 1, 1) := by decide +kernel
theorem d_Fd_putOutAll_104 : decode c_Fd_putOutAll 104 = .ok (.iadd, 1) := by decide +kernel
theorem d_Fd_putOutAll_105 : decode c_Fd_putOutAll 105 = .ok (.putfield 37, 3) := by decide +kernel
theorem d_Fd_putOutAll_108 : decode c_Fd_putOutAll 108 = .ok (.goto 16, 3) := by decide +kernel
theorem d_Fd_putOutAll_111 : decode c_Fd_putOutAll 111 = .ok (.aload_n 0, 1) := by decide +kernel
theorem d_Fd_putOutAll_112 : decode c_Fd_putOutAll 112 = .ok (.aload_n 0, 1) := by decide +kernel
theorem d_Fd_putOutAll_113 : decode c_Fd_putOutAll 113 = .ok (.getfield 10, 3) := by decide +kernel
theorem d_Fd_putOutAll_116 : decode c_Fd_putOutAll 116 = .ok (.iload_n 1, 1) := by decide +kernel
theorem d_Fd_putOutAll_117 : decode c_Fd_putOutAll 117 = .ok (.invokevirtual 88, 3) := by decide +kernel
theorem d_Fd_putOutAll_120 : decode c_Fd_putOutAll 120 = .ok (.invokevirtual 127, 3) := by decide +kernel
theorem d_Fd_putOutAll_123 : decode c_Fd_putOutAll 123 = .ok (.istore_n 2, 1) := by decide +kernel
theorem d_Fd_putOutAll_124 : decode c_Fd_putOutAll 124 = .ok (.iload_n 2, 1) := by decide +kernel
theorem d_Fd_putOutAll_125 : decode c_Fd_putOutAll 125 = .ok (.ifCond .ne 5, 3) := by decide +kernel
theorem d_Fd_putOutAll_128 : decode c_Fd_putOutAll 128 = .ok (.iconst 0, 1) := by decide +kernel
theorem d_Fd_putOutAll_129 : decode c_Fd_putOutAll 129 = .ok (.ireturn, 1) := by decide +kernel
theorem d_Fd_putOutAll_130 : decode c_Fd_putOutAll 130 = .ok (.iinc 1 1, 3) := by decide +kernel
theorem d_Fd_putOutAll_133 : decode c_Fd_putOutAll 133 = .ok (.goto (-131), 3) := by decide +kernel
theorem d_Fd_putOutAll_136 : decode c_Fd_putOutAll 136 = .ok (.iconst 1, 1) := by decide +kernel
theorem d_Fd_putOutAll_137 : decode c_Fd_putOutAll 137 = .ok (.ireturn, 1) := by decide +kernel
theorem d_Fd_takeStars_0 : decode c_Fd_takeStars 0 = .ok (.aload_n 0, 1) := by decide +kernel
theorem d_Fd_takeStars_1 : decode c_Fd_takeStars 1 = .ok (.getfield 43, 3) := by decide +kernel
theorem d_Fd_takeStars_4 : decode c_Fd_takeStars 4 = .ok (.getfield 131, 3) := by decide +kernel
theorem d_Fd_takeStars_7 : decode c_Fd_takeStars 7 = .ok (.ifCond .eq 14, 3) := by decide +kernel
theorem d_Fd_takeStars_10 : decode c_Fd_takeStars 10 = .ok (.aload_n 0, 1) := by decide +kernel
theorem d_Fd_takeStars_11 : decode c_Fd_takeStars 11 = .ok (.getfield 43, 3) := by decide +kernel
theorem d_Fd_takeStars_14 : decode c_Fd_takeStars 14 = .ok (.aload_n 0, 1) := by decide +kernel
theorem d_Fd_takeStars_15 : decode c_Fd_takeStars 15 = .ok (.invokevirtual 135, 3) := by decide +kernel
theorem d_Fd_takeStars_18 : decode c_Fd_takeStars 18 = .ok (.invokevirtual 138, 3) := by decide +kernel
theorem d_Fd_takeStars_21 : decode c_Fd_takeStars 21 = .ok (.aload_n 0, 1) := by decide +kernel
theorem d_Fd_takeStars_22 : decode c_Fd_takeStars 22 = .ok (.getfield 43, 3) := by decide +kernel
theorem d_Fd_takeStars_25 : decode c_Fd_takeStars 25 = .ok (.getfield 142, 3) := by decide +kernel
theorem d_Fd_takeStars_28 : decode c_Fd_takeStars 28 = .ok (.ifCond .eq 14, 3) := by decide +kernel
theorem d_Fd_takeStars_31 : decode c_Fd_takeStars 31 = .ok (.aload_n 0, 1) := by decide +kernel
theorem d_Fd_takeStars_32 : decode c_Fd_takeStars 32 = .ok (.getfield 43, 3) := by decide +kernel
theorem d_Fd_takeStars_35 : decode c_Fd_takeStars 35 = .ok (.aload_n 0, 1) := by decide +kernel
theorem d_Fd_takeStars_36 : decode c_Fd_takeStars 36 = .ok (.invokevirtual 135, 3) := by decide +kernel
theorem d_Fd_takeStars_39 : decode c_Fd_takeStars 39 = .ok (.invokevirtual 145, 3) := by decide +kernel
theorem d_Fd_takeStars_42 : decode c_Fd_takeStars 42 = .ok (.return_, 1) := by decide +kernel
theorem d_Fd_takeForStar_0 : decode c_Fd_takeForStar 0 = .ok (.ldc2_w 148, 3) := by decide +kernel
theorem d_Fd_takeForStar_3 : decode c_Fd_takeForStar 3 = .ok (.ldc2_w 150, 3) := by decide +kernel
theorem d_Fd_takeForStar_6 : decode c_Fd_takeForStar 6 = .ok (.aload_n 0, 1) := by decide +kernel
theorem d_Fd_takeForStar_7 : decode c_Fd_takeForStar 7 = .ok (.invokevirtual 111, 3) := by decide +kernel
theorem d_Fd_takeForStar_10 : decode c_Fd_takeForStar 10 = .ok (.invokestatic 152, 3) := by decide +kernel
theorem d_Fd_takeForStar_13 : decode c_Fd_takeForStar 13 = .ok (.invokestatic 156, 3) := by decide +kernel
theorem d_Fd_takeForStar_16 : decode c_Fd_takeForStar 16 = .ok (.l2i, 1) := by decide +kernel
theorem d_Fd_takeForStar_17 : decode c_Fd_takeForStar 17 = .ok (.ireturn, 1) := by decide +kernel
theorem d_Fd_take_0 : decode c_Fd_take 0 = .ok (.aload_n 0, 1) := by decide +kernel
theorem d_Fd_take_1 : decode c_Fd_take 1 = .ok (.getfield 34, 3) := by decide +kernel
theorem d_Fd_take_4 : decode c_Fd_take 4 = .ok (.aload_n 0, 1) := by decide +kernel
theorem d_Fd_take_5 : decode c_Fd_take 5 = .ok (.getfield 20, 3) := by decide +kernel
theorem d_Fd_take_8 : decode c_Fd_take 8 = .ok (.if_icmp .lt 5, 3) := by decide +kernel
theorem d_Fd_take_11 : decode c_Fd_take 11 = .ok (.lconst 0, 1) := by decide +kernel
theorem d_Fd_take_12 : decode c_Fd_take 12 = .ok (.lreturn, 1) := by decide +kernel
theorem d_Fd_take_13 : decode c_Fd_take 13 = .ok (.aload_n 0, 1) := by decide +kernel
theorem d_Fd_take_14 : decode c_Fd_take 14 = .ok (.getfield 16, 3) := by decide +kernel
theorem d_Fd_take_17 : decode c_Fd_take 17 = .ok (.aload_n 0, 1) := by decide +kernel
theorem d_Fd_take_18 : decode c_Fd_take 18 = .ok (.getfield 34, 3) := by decide +kernel
theorem d_Fd_take_21 : decode c_Fd_take 21 = .ok (.laload, 1) := by decide +kernel
theorem d_Fd_take_22 : decode c_Fd_take 22 = .ok (.lstore_n 1, 1) := by decide +kernel
theorem d_Fd_take_23 : decode c_Fd_take 23 = .ok (.aload_n 0, 1) := by decide +kernel
theorem d_Fd_take_24 : decode c_Fd_take 24 = .ok (.dup, 1) := by decide +kernel
theorem d_Fd_take_25 : decode c_Fd_take 25 = .ok (.getfield 34, 3) := by decide +kernel
theorem d_Fd_take_28 : decode c_Fd_take 28 = .ok (.iconst 1, 1) := by decide +kernel
theorem d_Fd_take_29 : decode c_Fd_take 29 = .ok (.iadd, 1) := by decide +kernel
theorem d_Fd_take_30 : decode c_Fd_take 30 = .ok (.putfield 34, 3) := by decide +kernel
theorem d_Fd_take_33 : decode c_Fd_take 33 = .ok (.lload_n 1, 1) := by decide +kernel
theorem d_Fd_take_34 : decode c_Fd_take 34 = .ok (.lreturn, 1) := by decide +kernel
theorem d_Fd_putOutPiece_0 : decode c_Fd_putOutPiece 0 = .ok (.iconst 0, 1) := by decide +kernel
theorem d_Fd_putOutPiece_1 : decode c_Fd_putOutPiece 1 = .ok (.aload_n 0, 1) := by decide +kernel
theorem d_Fd_putOutPiece_2 : decode c_Fd_putOutPiece 2 = .ok (.getfield 43, 3) := by decide +kernel
theorem d_Fd_putOutPiece_5 : decode c_Fd_putOutPiece 5 = .ok (.getfield 158, 3) := by decide +kernel
theorem d_Fd_putOutPiece_8 : decode c_Fd_putOutPiece 8 = .ok (.aload_n 1, 1) := by decide +kernel
theorem d_Fd_putOutPiece_9 : decode c_Fd_putOutPiece 9 = .ok (.getfield 161, 3) := by decide +kernel
theorem d_Fd_putOutPiece_12 : decode c_Fd_putOutPiece 12 = .ok (.isub, 1) := by decide +kernel
theorem d_Fd_putOutPiece_13 : decode c_Fd_putOutPiece 13 = .ok (.invokestatic 99, 3) := by decide +kernel
theorem d_Fd_putOutPiece_16 : decode c_Fd_putOutPiece 16 = .ok (.istore_n 2, 1) := by decide +kernel
theorem d_Fd_putOutPiece_17 : decode c_Fd_putOutPiece 17 = .ok (.aload_n 0, 1) := by decide +kernel
theorem d_Fd_putOutPiece_18 : decode c_Fd_putOutPiece 18 = .ok (.getfield 28, 3) := by decide +kernel
theorem d_Fd_putOutPiece_21 : decode c_Fd_putOutPiece 21 = .ok (.aload_n 1, 1) := by decide +kernel
theorem d_Fd_putOutPiece_22 : decode c_Fd_putOutPiece 22 = .ok (.getfield 161, 3) := by decide +kernel
theorem d_Fd_putOutPiece_25 : decode c_Fd_putOutPiece 25 = .ok (.iadd, 1) := by decide +kernel
theorem d_Fd_putOutPiece_26 : decode c_Fd_putOutPiece 26 = .ok (.iload_n 2, 1) := by decide +kernel
theorem d_Fd_putOutPiece_27 : decode c_Fd_putOutPiece 27 = .ok (.iadd, 1) := by decide +kernel
theorem d_Fd_putOutPiece_28 : decode c_Fd_putOutPiece 28 = .ok (.sipush 4000, 3) := by decide +kernel
theorem d_Fd_putOutPiece_31 : decode c_Fd_putOutPiece 31 = .ok (.if_icmp .le 5, 3) := by decide +kernel
theorem d_Fd_putOutPiece_34 : decode c_Fd_putOutPiece 34 = .ok (.iconst 0, 1) := by decide +kernel
theorem d_Fd_putOutPiece_35 : decode c_Fd_putOutPiece 35 = .ok (.ireturn, 1) := by decide +kernel
theorem d_Fd_putOutPiece_36 : decode c_Fd_putOutPiece 36 = .ok (.aload_n 0, 1) := by decide +kernel
theorem d_Fd_putOutPiece_37 : decode c_Fd_putOutPiece 37 = .ok (.getfield 43, 3) := by decide +kernel
theorem d_Fd_putOutPiece_40 : decode c_Fd_putOutPiece 40 = .ok (.getfield 164, 3) := by decide +kernel
theorem d_Fd_putOutPiece_43 : decode c_Fd_putOutPiece 43 = .ok (.ifCond .eq 25, 3) := by decide +kernel
theorem d_Fd_putOutPiece_46 : decode c_Fd_putOutPiece 46 = .ok (.aload_n 0, 1) := by decide +kernel
theorem d_Fd_putOutPiece_47 : decode c_Fd_putOutPiece 47 = .ok (.getfield 43, 3) := by decide +kernel
theorem d_Fd_putOutPiece_50 : decode c_Fd_putOutPiece 50 = .ok (.getfield 167, 3) := by decide +kernel
theorem d_Fd_putOutPiece_53 : decode c_Fd_putOutPiece 53 = .ok (.ifCond .ne 15, 3) := by decide +kernel
theorem d_Fd_putOutPiece_56 : decode c_Fd_putOutPiece 56 = .ok (.aload_n 1, 1) := by decide +kernel
theorem d_Fd_putOutPiece_57 : decode c_Fd_putOutPiece 57 = .ok (.getfield 170, 3) := by decide +kernel
theorem d_Fd_putOutPiece_60 : decode c_Fd_putOutPiece 60 = .ok (.iconst (-1), 1) := by decide +kernel
theorem d_Fd_putOutPiece_61 : decode c_Fd_putOutPiece 61 = .ok (.if_icmp .eq 7, 3) := by decide +kernel
theorem d_Fd_putOutPiece_64 : decode c_Fd_putOutPiece 64 = .ok (.iconst 1, 1) := by decide +kernel
theorem d_Fd_putOutPiece_65 : decode c_Fd_putOutPiece 65 = .ok (.goto 4, 3) := by decide +kernel
theorem d_Fd_putOutPiece_68 : decode c_Fd_putOutPiece 68 = .ok (.iconst 0, 1) := by decide +kernel
theorem d_Fd_putOutPiece_69 : decode c_Fd_putOutPiece 69 = .ok (.istore_n 3, 1) := by decide +kernel
theorem d_Fd_putOutPiece_70 : decode c_Fd_putOutPiece 70 = .ok (.aload_n 0, 1) := by decide +kernel
theorem d_Fd_putOutPiece_71 : decode c_Fd_putOutPiece 71 = .ok (.getfield 43, 3) := by decide +kernel
theorem d_Fd_putOutPiece_74 : decode c_Fd_putOutPiece 74 = .ok (.getfield 167, 3) := by decide +kernel
theorem d_Fd_putOutPiece_77 : decode c_Fd_putOutPiece 77 = .ok (.ifCond .eq 10, 3) := by decide +kernel
theorem d_Fd_putOutPiece_80 : decode c_Fd_putOutPiece 80 = .ok (.aload_n 1, 1) := by decide +kernel
theorem d_Fd_putOutPiece_81 : decode c_Fd_putOutPiece 81 = .ok (.getfield 161, 3) := by decide +kernel
theorem d_Fd_putOutPiece_84 : decode c_Fd_putOutPiece 84 = .ok (.goto 15, 3) := by decide +kernel
theorem d_Fd_putOutPiece_87 : decode c_Fd_putOutPiece 87 = .ok (.iload_n 3, 1) := by decide +kernel
theorem d_Fd_putOutPiece_88 : decode c_Fd_putOutPiece 88 = .ok (.ifCond .eq 10, 3) := by decide +kernel
theorem d_Fd_putOutPiece_91 : decode c_Fd_putOutPiece 91 = .ok (.aload_n 1, 1) := by decide +kernel
theorem d_Fd_putOutPiece_92 : decode c_Fd_putOutPiece 92 = .ok (.getfield 170, 3) := by decide +kernel
theorem d_Fd_putOutPiece_95 : decode c_Fd_putOutPiece 95 = .ok (.goto 4, 3) := by decide +kernel
theorem d_Fd_putOutPiece_98 : decode c_Fd_putOutPiece 98 = .ok (.iconst 0, 1) := by decide +kernel
theorem d_Fd_putOutPiece_99 : decode c_Fd_putOutPiece 99 = .ok (.istore 4, 2) := by decide +kernel
theorem d_Fd_putOutPiece_101 : decode c_Fd_putOutPiece 101 = .ok (.iconst 0, 1) := by decide +kernel
theorem d_Fd_putOutPiece_102 : decode c_Fd_putOutPiece 102 = .ok (.istore 5, 2) := by decide +kernel
theorem d_Fd_putOutPiece_104 : decode c_Fd_putOutPiece 104 = .ok (.iload 5, 2) := by decide +kernel
theorem d_Fd_putOutPiece_106 : decode c_Fd_putOutPiece 106 = .ok (.iload 4, 2) := by decide +kernel
theorem d_Fd_putOutPiece_108 : decode c_Fd_putOutPiece 108 = .ok (.if_icmp .ge 20, 3) := by decide +kernel
theorem d_Fd_putOutPiece_111 : decode c_Fd_putOutPiece 111 = .ok (.aload_n 0, 1) := by decide +kernel
theorem d_Fd_putOutPiece_112 : decode c_Fd_putOutPiece 112 = .ok (.aload_n 1, 1) := by decide +kernel
theorem d_Fd_putOutPiece_113 : decode c_Fd_putOutPiece 113 = .ok (.iload 5, 2) := by decide +kernel
theorem d_Fd_putOutPiece_115 : decode c_Fd_putOutPiece 115 = .ok (.invokevirtual 173, 3) := by decide +kernel
theorem d_Fd_putOutPiece_118 : decode c_Fd_putOutPiece 118 = .ok (.invokevirtual 127, 3) := by decide +kernel
theorem d_Fd_putOutPiece_121 : decode c_Fd_putOutPiece 121 = .ok (.pop, 1) := by decide +kernel
theorem d_Fd_putOutPiece_122 : decode c_Fd_putOutPiece 122 = .ok (.iinc 5 1, 3) := by decide +kernel
theorem d_Fd_putOutPiece_125 : decode c_Fd_putOutPiece 125 = .ok (.goto (-21), 3) := by decide +kernel
theorem d_Fd_putOutPiece_128 : decode c_Fd_putOutPiece 128 = .ok (.iconst 0, 1) := by decide +kernel
theorem d_Fd_putOutPiece_129 : decode c_Fd_putOutPiece 129 = .ok (.istore 5, 2) := by decide +kernel
theorem d_Fd_putOutPiece_131 : decode c_Fd_putOutPiece 131 = .ok (.iload 5, 2) := by decide +kernel
theorem d_Fd_putOutPiece_133 : decode c_Fd_putOutPiece 133 = .ok (.iload_n 2, 1) := by decide +kernel
theorem d_Fd_putOutPiece_134 : decode c_Fd_putOutPiece 134 = .ok (.if_icmp .ge 25, 3) := by decide +kernel
theorem d_Fd_putOutPiece_137 : decode c_Fd_putOutPiece 137 = .ok (.aload_n 0, 1) := by decide +kernel
theorem d_Fd_putOutPiece_138 : decode c_Fd_putOutPiece 138 = .ok (.iload_n 3, 1) := by decide +kernel
theorem d_Fd_putOutPiece_139 : decode c_Fd_putOutPiece 139 = .ok (.ifCond .eq 8, 3) := by decide +kernel
theorem d_Fd_putOutPiece_142 : decode c_Fd_putOutPiece 142 = .ok (.bipush 48, 2) := by decide +kernel
theorem d_Fd_putOutPiece_144 : decode c_Fd_putOutPiece 144 = .ok (.goto 5, 3) := by decide +kernel
theorem d_Fd_putOutPiece_147 : decode c_Fd_putOutPiece 147 = .ok (.bipush 32, 2) := by decide +kernel
theorem d_Fd_putOutPiece_149 : decode c_Fd_putOutPiece 149 = .ok (.invokevirtual 127, 3) := by decide +kernel
theorem d_Fd_putOutPiece_152 : decode c_Fd_putOutPiece 152 = .ok (.pop, 1) := by decide +kernel
theorem d_Fd_putOutPiece_153 : decode c_Fd_putOutPiece 153 = .ok (.iinc 5 1, 3) := by decide +kernel
theorem d_Fd_putOutPiece_156 : decode c_Fd_putOutPiece 156 = .ok (.goto (-25), 3) := by decide +kernel
theorem d_Fd_putOutPiece_159 : decode c_Fd_putOutPiece 159 = .ok (.iload 4, 2) := by decide +kernel
theorem d_Fd_putOutPiece_161 : decode c_Fd_putOutPiece 161 = .ok (.istore 5, 2) := by decide +kernel
theorem d_Fd_putOutPiece_163 : decode c_Fd_putOutPiece 163 = .ok (.iload 5, 2) := by decide +kernel
theorem d_Fd_putOutPiece_165 : decode c_Fd_putOutPiece 165 = .ok (.aload_n 1, 1) := by decide +kernel
theorem d_Fd_putOutPiece_166 : decode c_Fd_putOutPiece 166 = .ok (.getfield 161, 3) := by decide +kernel
theorem d_Fd_putOutPiece_169 : decode c_Fd_putOutPiece 169 = .ok (.if_icmp .ge 20, 3) := by decide +kernel
theorem d_Fd_putOutPiece_172 : decode c_Fd_putOutPiece 172 = .ok (.aload_n 0, 1) := by decide +kernel
theorem d_Fd_putOutPiece_173 : decode c_Fd_putOutPiece 173 = .ok (.aload_n 1, 1) := by decide +kernel
theorem d_Fd_putOutPiece_174 : decode c_Fd_putOutPiece 174 = .ok (.iload 5, 2) := by decide +kernel
theorem d_Fd_putOutPiece_176 : decode c_Fd_putOutPiece 176 = .ok (.invokevirtual 173, 3) := by decide +kernel
theorem d_Fd_putOutPiece_179 : decode c_Fd_putOutPiece 179 = .ok (.invokevirtual 127, 3) := by decide +kernel
theorem d_Fd_putOutPiece_182 : decode c_Fd_putOutPiece 182 = .ok (.pop, 1) := by decide +kernel
theorem d_Fd_putOutPiece_183 : decode c_Fd_putOutPiece 183 = .ok (.iinc 5 1, 3) := by decide +kernel
theorem d_Fd_putOutPiece_186 : decode c_Fd_putOutPiece 186 = .ok (.goto (-23), 3) := by decide +kernel
theorem d_Fd_putOutPiece_189 : decode c_Fd_putOutPiece 189 = .ok (.iconst 1, 1) := by decide +kernel
theorem d_Fd_putOutPiece_190 : decode c_Fd_putOutPiece 190 = .ok (.ireturn, 1) := by decide +kernel
theorem d_Fd_putOut_0 : decode c_Fd_putOut 0 = .ok (.aload_n 0, 1) := by decide +kernel
theorem d_Fd_putOut_1 : decode c_Fd_putOut 1 = .ok (.getfield 28, 3) := by decide +kernel
theorem d_Fd_putOut_4 : decode c_Fd_putOut 4 = .ok (.sipush 4000, 3) := by decide +kernel
theorem d_Fd_putOut_7 : decode c_Fd_putOut 7 = .ok (.if_icmp .lt 5, 3) := by decide +kernel
theorem d_Fd_putOut_10 : decode c_Fd_putOut 10 = .ok (.iconst 0, 1) := by decide +kernel
theorem d_Fd_putOut_11 : decode c_Fd_putOut 11 = .ok (.ireturn, 1) := by decide +kernel
theorem d_Fd_putOut_12 : decode c_Fd_putOut 12 = .ok (.aload_n 0, 1) := by decide +kernel
theorem d_Fd_putOut_13 : decode c_Fd_putOut 13 = .ok (.getfield 24, 3) := by decide +kernel
theorem d_Fd_putOut_16 : decode c_Fd_putOut 16 = .ok (.aload_n 0, 1) := by decide +kernel
theorem d_Fd_putOut_17 : decode c_Fd_putOut 17 = .ok (.getfield 28, 3) := by decide +kernel
theorem d_Fd_putOut_20 : decode c_Fd_putOut 20 = .ok (.iload_n 1, 1) := by decide +kernel
theorem d_Fd_putOut_21 : decode c_Fd_putOut 21 = .ok (.i2b, 1) := by decide +kernel
theorem d_Fd_putOut_22 : decode c_Fd_putOut 22 = .ok (.bastore, 1) := by decide +kernel
theorem d_Fd_putOut_23 : decode c_Fd_putOut 23 = .ok (.aload_n 0, 1) := by decide +kernel
theorem d_Fd_putOut_24 : decode c_Fd_putOut 24 = .ok (.dup, 1) := by decide +kernel
theorem d_Fd_putOut_25 : decode c_Fd_putOut 25 = .ok (.getfield 28, 3) := by decide +kernel
theorem d_Fd_putOut_28 : decode c_Fd_putOut 28 = .ok (.iconst 1, 1) := by decide +kernel
theorem d_Fd_putOut_29 : decode c_Fd_putOut 29 = .ok (.iadd, 1) := by decide +kernel
theorem d_Fd_putOut_30 : decode c_Fd_putOut 30 = .ok (.putfield 28, 3) := by decide +kernel
theorem d_Fd_putOut_33 : decode c_Fd_putOut 33 = .ok (.iconst 1, 1) := by decide +kernel
theorem d_Fd_putOut_34 : decode c_Fd_putOut 34 = .ok (.ireturn, 1) := by decide +kernel
