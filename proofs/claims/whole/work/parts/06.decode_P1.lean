theorem d_P_init_0 : decode c_P_init 0 = .ok (.aload_n 0, 1) := by decide +kernel
theorem d_P_init_1 : decode c_P_init 1 = .ok (.invokespecial 3, 3) := by decide +kernel
theorem d_P_init_4 : decode c_P_init 4 = .ok (.aload_n 0, 1) := by decide +kernel
theorem d_P_init_5 : decode c_P_init 5 = .ok (.lload_n 1, 1) := by decide +kernel
theorem d_P_init_6 : decode c_P_init 6 = .ok (.invokestatic 9, 3) := by decide +kernel
theorem d_P_init_9 : decode c_P_init 9 = .ok (.putfield 13, 3) := by decide +kernel
theorem d_P_init_12 : decode c_P_init 12 = .ok (.aload_n 0, 1) := by decide +kernel
theorem d_P_init_13 : decode c_P_init 13 = .ok (.lload_n 3, 1) := by decide +kernel
theorem d_P_init_14 : decode c_P_init 14 = .ok (.invokestatic 9, 3) := by decide +kernel
theorem d_P_init_17 : decode c_P_init 17 = .ok (.putfield 17, 3) := by decide +kernel
theorem d_P_init_20 : decode c_P_init 20 = .ok (.aload_n 0, 1) := by decide +kernel
theorem d_P_init_21 : decode c_P_init 21 = .ok (.iconst 4, 1) := by decide +kernel
theorem d_P_init_22 : decode c_P_init 22 = .ok (.anewarray 20, 3) := by decide +kernel
theorem d_P_init_25 : decode c_P_init 25 = .ok (.putfield 22, 3) := by decide +kernel
theorem d_P_init_28 : decode c_P_init 28 = .ok (.iconst 0, 1) := by decide +kernel
theorem d_P_init_29 : decode c_P_init 29 = .ok (.istore 5, 2) := by decide +kernel
theorem d_P_init_31 : decode c_P_init 31 = .ok (.iload 5, 2) := by decide +kernel
theorem d_P_init_33 : decode c_P_init 33 = .ok (.iconst 4, 1) := by decide +kernel
theorem d_P_init_34 : decode c_P_init 34 = .ok (.if_icmp .ge 23, 3) := by decide +kernel
theorem d_P_init_37 : decode c_P_init 37 = .ok (.aload_n 0, 1) := by decide +kernel
theorem d_P_init_38 : decode c_P_init 38 = .ok (.getfield 22, 3) := by decide +kernel
theorem d_P_init_41 : decode c_P_init 41 = .ok (.iload 5, 2) := by decide +kernel
theorem d_P_init_43 : decode c_P_init 43 = .ok (.new 20, 3) := by decide +kernel
theorem d_P_init_46 : decode c_P_init 46 = .ok (.dup, 1) := by decide +kernel
theorem d_P_init_47 : decode c_P_init 47 = .ok (.invokespecial 26, 3) := by decide +kernel
theorem d_P_init_50 : decode c_P_init 50 = .ok (.aastore, 1) := by decide +kernel
theorem d_P_init_51 : decode c_P_init 51 = .ok (.iinc 5 1, 3) := by decide +kernel
theorem d_P_init_54 : decode c_P_init 54 = .ok (.goto (-23), 3) := by decide +kernel
theorem d_P_init_57 : decode c_P_init 57 = .ok (.aload_n 0, 1) := by decide +kernel
theorem d_P_init_58 : decode c_P_init 58 = .ok (.iconst 4, 1) := by decide +kernel
theorem d_P_init_59 : decode c_P_init 59 = .ok (.newarray .long, 2) := by decide +kernel
theorem d_P_init_61 : decode c_P_init 61 = .ok (.putfield 27, 3) := by decide +kernel
theorem d_P_init_64 : decode c_P_init 64 = .ok (.aload_n 0, 1) := by decide +kernel
theorem d_P_init_65 : decode c_P_init 65 = .ok (.new 31, 3) := by decide +kernel
theorem d_P_init_68 : decode c_P_init 68 = .ok (.dup, 1) := by decide +kernel
theorem d_P_init_69 : decode c_P_init 69 = .ok (.invokespecial 33, 3) := by decide +kernel
theorem d_P_init_72 : decode c_P_init 72 = .ok (.putfield 34, 3) := by decide +kernel
theorem d_P_init_75 : decode c_P_init 75 = .ok (.aload_n 0, 1) := by decide +kernel
theorem d_P_init_76 : decode c_P_init 76 = .ok (.new 38, 3) := by decide +kernel
theorem d_P_init_79 : decode c_P_init 79 = .ok (.dup, 1) := by decide +kernel
theorem d_P_init_80 : decode c_P_init 80 = .ok (.invokespecial 40, 3) := by decide +kernel
theorem d_P_init_83 : decode c_P_init 83 = .ok (.putfield 41, 3) := by decide +kernel
theorem d_P_init_86 : decode c_P_init 86 = .ok (.return_, 1) := by decide +kernel
theorem d_P_board_0 : decode c_P_board 0 = .ok (.aload_n 0, 1) := by decide +kernel
theorem d_P_board_1 : decode c_P_board 1 = .ok (.getfield 45, 3) := by decide +kernel
theorem d_P_board_4 : decode c_P_board 4 = .ok (.iconst 4, 1) := by decide +kernel
theorem d_P_board_5 : decode c_P_board 5 = .ok (.if_icmp .lt 5, 3) := by decide +kernel
theorem d_P_board_8 : decode c_P_board 8 = .ok (.iconst (-1), 1) := by decide +kernel
theorem d_P_board_9 : decode c_P_board 9 = .ok (.ireturn, 1) := by decide +kernel
theorem d_P_board_10 : decode c_P_board 10 = .ok (.aload_n 0, 1) := by decide +kernel
theorem d_P_board_11 : decode c_P_board 11 = .ok (.dup, 1) := by decide +kernel
theorem d_P_board_12 : decode c_P_board 12 = .ok (.getfield 45, 3) := by decide +kernel
theorem d_P_board_15 : decode c_P_board 15 = .ok (.iconst 1, 1) := by decide +kernel
theorem d_P_board_16 : decode c_P_board 16 = .ok (.iadd, 1) := by decide +kernel
theorem d_P_board_17 : decode c_P_board 17 = .ok (.putfield 45, 3) := by decide +kernel
theorem d_P_board_20 : decode c_P_board 20 = .ok (.aload_n 0, 1) := by decide +kernel
theorem d_P_board_21 : decode c_P_board 21 = .ok (.getfield 45, 3) := by decide +kernel
theorem d_P_board_24 : decode c_P_board 24 = .ok (.iconst 1, 1) := by decide +kernel
theorem d_P_board_25 : decode c_P_board 25 = .ok (.isub, 1) := by decide +kernel
theorem d_P_board_26 : decode c_P_board 26 = .ok (.ireturn, 1) := by decide +kernel
theorem d_P_corner_0 : decode c_P_corner 0 = .ok (.aload_n 0, 1) := by decide +kernel
theorem d_P_corner_1 : decode c_P_corner 1 = .ok (.iload_n 1, 1) := by decide +kernel
theorem d_P_corner_2 : decode c_P_corner 2 = .ok (.invokevirtual 49, 3) := by decide +kernel
theorem d_P_corner_5 : decode c_P_corner 5 = .ok (.lload_n 2, 1) := by decide +kernel
theorem d_P_corner_6 : decode c_P_corner 6 = .ok (.invokestatic 53, 3) := by decide +kernel
theorem d_P_corner_9 : decode c_P_corner 9 = .ok (.lload 4, 2) := by decide +kernel
theorem d_P_corner_11 : decode c_P_corner 11 = .ok (.invokestatic 53, 3) := by decide +kernel
theorem d_P_corner_14 : decode c_P_corner 14 = .ok (.aload_n 0, 1) := by decide +kernel
theorem d_P_corner_15 : decode c_P_corner 15 = .ok (.getfield 22, 3) := by decide +kernel
theorem d_P_corner_18 : decode c_P_corner 18 = .ok (.iload_n 1, 1) := by decide +kernel
theorem d_P_corner_19 : decode c_P_corner 19 = .ok (.aaload, 1) := by decide +kernel
theorem d_P_corner_20 : decode c_P_corner 20 = .ok (.lload_n 2, 1) := by decide +kernel
theorem d_P_corner_21 : decode c_P_corner 21 = .ok (.lload 4, 2) := by decide +kernel
theorem d_P_corner_23 : decode c_P_corner 23 = .ok (.invokevirtual 57, 3) := by decide +kernel
theorem d_P_corner_26 : decode c_P_corner 26 = .ok (.ireturn, 1) := by decide +kernel
theorem d_P_run_0 : decode c_P_run 0 = .ok (.iload_n 1, 1) := by decide +kernel
theorem d_P_run_1 : decode c_P_run 1 = .ok (.i2l, 1) := by decide +kernel
theorem d_P_run_2 : decode c_P_run 2 = .ok (.lconst 0, 1) := by decide +kernel
theorem d_P_run_3 : decode c_P_run 3 = .ok (.ldc2_w 61, 3) := by decide +kernel
theorem d_P_run_6 : decode c_P_run 6 = .ok (.invokestatic 63, 3) := by decide +kernel
theorem d_P_run_9 : decode c_P_run 9 = .ok (.ifCond .eq 14, 3) := by decide +kernel
theorem d_P_run_12 : decode c_P_run 12 = .ok (.lload_n 2, 1) := by decide +kernel
theorem d_P_run_13 : decode c_P_run 13 = .ok (.lconst 0, 1) := by decide +kernel
theorem d_P_run_14 : decode c_P_run 14 = .ok (.ldc2_w 67, 3) := by decide +kernel
theorem d_P_run_17 : decode c_P_run 17 = .ok (.invokestatic 63, 3) := by decide +kernel
theorem d_P_run_20 : decode c_P_run 20 = .ok (.ifCond .ne 13, 3) := by decide +kernel
theorem d_P_run_23 : decode c_P_run 23 = .ok (.new 69, 3) := by decide +kernel
theorem d_P_run_26 : decode c_P_run 26 = .ok (.dup, 1) := by decide +kernel
theorem d_P_run_27 : decode c_P_run 27 = .ok (.ldc 71, 2) := by decide +kernel
theorem d_P_run_29 : decode c_P_run 29 = .ok (.invokespecial 73, 3) := by decide +kernel
theorem d_P_run_32 : decode c_P_run 32 = .ok (.athrow, 1) := by decide +kernel
theorem d_P_run_33 : decode c_P_run 33 = .ok (.lload_n 2, 1) := by decide +kernel
theorem d_P_run_34 : decode c_P_run 34 = .ok (.l2i, 1) := by decide +kernel
theorem d_P_run_35 : decode c_P_run 35 = .ok (.istore 4, 2) := by decide +kernel
theorem d_P_run_37 : decode c_P_run 37 = .ok (.iload_n 1, 1) := by decide +kernel
theorem d_P_run_38 : decode c_P_run 38 = .ok (.aload_n 0, 1) := by decide +kernel
theorem d_P_run_39 : decode c_P_run 39 = .ok (.getfield 45, 3) := by decide +kernel
theorem d_P_run_42 : decode c_P_run 42 = .ok (.invokestatic 76, 3) := by decide +kernel
theorem d_P_run_45 : decode c_P_run 45 = .ok (.istore 5, 2) := by decide +kernel
theorem d_P_run_47 : decode c_P_run 47 = .ok (.aload_n 0, 1) := by decide +kernel
theorem d_P_run_48 : decode c_P_run 48 = .ok (.getfield 17, 3) := by decide +kernel
theorem d_P_run_51 : decode c_P_run 51 = .ok (.aload_n 0, 1) := by decide +kernel
theorem d_P_run_52 : decode c_P_run 52 = .ok (.getfield 27, 3) := by decide +kernel
theorem d_P_run_55 : decode c_P_run 55 = .ok (.iconst 1, 1) := by decide +kernel
theorem d_P_run_56 : decode c_P_run 56 = .ok (.laload, 1) := by decide +kernel
theorem d_P_run_57 : decode c_P_run 57 = .ok (.lsub, 1) := by decide +kernel
theorem d_P_run_58 : decode c_P_run 58 = .ok (.aload_n 0, 1) := by decide +kernel
theorem d_P_run_59 : decode c_P_run 59 = .ok (.getfield 27, 3) := by decide +kernel
theorem d_P_run_62 : decode c_P_run 62 = .ok (.iconst 3, 1) := by decide +kernel
theorem d_P_run_63 : decode c_P_run 63 = .ok (.laload, 1) := by decide +kernel
theorem d_P_run_64 : decode c_P_run 64 = .ok (.lsub, 1) := by decide +kernel
theorem d_P_run_65 : decode c_P_run 65 = .ok (.lstore 6, 2) := by decide +kernel
theorem d_P_run_67 : decode c_P_run 67 = .ok (.aload_n 0, 1) := by decide +kernel
theorem d_P_run_68 : decode c_P_run 68 = .ok (.iload 5, 2) := by decide +kernel
theorem d_P_run_70 : decode c_P_run 70 = .ok (.invokevirtual 82, 3) := by decide +kernel
theorem d_P_run_73 : decode c_P_run 73 = .ok (.aload_n 0, 1) := by decide +kernel
theorem d_P_run_74 : decode c_P_run 74 = .ok (.getfield 34, 3) := by decide +kernel
theorem d_P_run_77 : decode c_P_run 77 = .ok (.iload 4, 2) := by decide +kernel
theorem d_P_run_79 : decode c_P_run 79 = .ok (.lload 6, 2) := by decide +kernel
theorem d_P_run_81 : decode c_P_run 81 = .ok (.invokevirtual 85, 3) := by decide +kernel
theorem d_P_run_84 : decode c_P_run 84 = .ok (.aload_n 0, 1) := by decide +kernel
theorem d_P_run_85 : decode c_P_run 85 = .ok (.invokevirtual 89, 3) := by decide +kernel
theorem d_P_run_88 : decode c_P_run 88 = .ok (.aload_n 0, 1) := by decide +kernel
theorem d_P_run_89 : decode c_P_run 89 = .ok (.iload 5, 2) := by decide +kernel
theorem d_P_run_91 : decode c_P_run 91 = .ok (.aload_n 0, 1) := by decide +kernel
theorem d_P_run_92 : decode c_P_run 92 = .ok (.getfield 45, 3) := by decide +kernel
theorem d_P_run_95 : decode c_P_run 95 = .ok (.if_icmp .ne 23, 3) := by decide +kernel
theorem d_P_run_98 : decode c_P_run 98 = .ok (.aload_n 0, 1) := by decide +kernel
theorem d_P_run_99 : decode c_P_run 99 = .ok (.getfield 34, 3) := by decide +kernel
theorem d_P_run_102 : decode c_P_run 102 = .ok (.iload 4, 2) := by decide +kernel
theorem d_P_run_104 : decode c_P_run 104 = .ok (.iconst 1, 1) := by decide +kernel
theorem d_P_run_105 : decode c_P_run 105 = .ok (.iadd, 1) := by decide +kernel
theorem d_P_run_106 : decode c_P_run 106 = .ok (.lload 6, 2) := by decide +kernel
theorem d_P_run_108 : decode c_P_run 108 = .ok (.invokevirtual 92, 3) := by decide +kernel
theorem d_P_run_111 : decode c_P_run 111 = .ok (.ifCond .ne 7, 3) := by decide +kernel
theorem d_P_run_114 : decode c_P_run 114 = .ok (.iconst 1, 1) := by decide +kernel
theorem d_P_run_115 : decode c_P_run 115 = .ok (.goto 4, 3) := by decide +kernel
theorem d_P_run_118 : decode c_P_run 118 = .ok (.iconst 0, 1) := by decide +kernel
theorem d_P_run_119 : decode c_P_run 119 = .ok (.putfield 96, 3) := by decide +kernel
theorem d_P_run_122 : decode c_P_run 122 = .ok (.aload_n 0, 1) := by decide +kernel
theorem d_P_run_123 : decode c_P_run 123 = .ok (.getfield 41, 3) := by decide +kernel
theorem d_P_run_126 : decode c_P_run 126 = .ok (.getfield 100, 3) := by decide +kernel
theorem d_P_run_129 : decode c_P_run 129 = .ok (.ireturn, 1) := by decide +kernel
theorem d_P_at_0 : decode c_P_at 0 = .ok (.aload_n 0, 1) := by decide +kernel
theorem d_P_at_1 : decode c_P_at 1 = .ok (.iload_n 1, 1) := by decide +kernel
theorem d_P_at_2 : decode c_P_at 2 = .ok (.invokevirtual 103, 3) := by decide +kernel
theorem d_P_at_5 : decode c_P_at 5 = .ok (.aload_n 0, 1) := by decide +kernel
theorem d_P_at_6 : decode c_P_at 6 = .ok (.getfield 41, 3) := by decide +kernel
theorem d_P_at_9 : decode c_P_at 9 = .ok (.getfield 106, 3) := by decide +kernel
theorem d_P_at_12 : decode c_P_at 12 = .ok (.iload_n 1, 1) := by decide +kernel
theorem d_P_at_13 : decode c_P_at 13 = .ok (.iaload, 1) := by decide +kernel
theorem d_P_at_14 : decode c_P_at 14 = .ok (.istore_n 3, 1) := by decide +kernel
theorem d_P_at_15 : decode c_P_at 15 = .ok (.iload_n 2, 1) := by decide +kernel
theorem d_P_at_16 : decode c_P_at 16 = .ok (.tableswitch 102 0 5 #[40, 51, 61, 71, 82, 92], 40) := by decide +kernel
theorem d_P_at_56 : decode c_P_at 56 = .ok (.aload_n 0, 1) := by decide +kernel
theorem d_P_at_57 : decode c_P_at 57 = .ok (.getfield 41, 3) := by decide +kernel
theorem d_P_at_60 : decode c_P_at 60 = .ok (.getfield 110, 3) := by decide +kernel
theorem d_P_at_63 : decode c_P_at 63 = .ok (.iload_n 3, 1) := by decide +kernel
theorem d_P_at_64 : decode c_P_at 64 = .ok (.iaload, 1) := by decide +kernel
theorem d_P_at_65 : decode c_P_at 65 = .ok (.i2l, 1) := by decide +kernel
theorem d_P_at_66 : decode c_P_at 66 = .ok (.lreturn, 1) := by decide +kernel
theorem d_P_at_67 : decode c_P_at 67 = .ok (.aload_n 0, 1) := by decide +kernel
theorem d_P_at_68 : decode c_P_at 68 = .ok (.getfield 41, 3) := by decide +kernel
theorem d_P_at_71 : decode c_P_at 71 = .ok (.getfield 113, 3) := by decide +kernel
theorem d_P_at_74 : decode c_P_at 74 = .ok (.iload_n 1, 1) := by decide +kernel
theorem d_P_at_75 : decode c_P_at 75 = .ok (.laload, 1) := by decide +kernel
theorem d_P_at_76 : decode c_P_at 76 = .ok (.lreturn, 1) := by decide +kernel
theorem d_P_at_77 : decode c_P_at 77 = .ok (.aload_n 0, 1) := by decide +kernel
theorem d_P_at_78 : decode c_P_at 78 = .ok (.getfield 41, 3) := by decide +kernel
theorem d_P_at_81 : decode c_P_at 81 = .ok (.getfield 116, 3) := by decide +kernel
theorem d_P_at_84 : decode c_P_at 84 = .ok (.iload_n 3, 1) := by decide +kernel
theorem d_P_at_85 : decode c_P_at 85 = .ok (.laload, 1) := by decide +kernel
theorem d_P_at_86 : decode c_P_at 86 = .ok (.lreturn, 1) := by decide +kernel
theorem d_P_at_87 : decode c_P_at 87 = .ok (.aload_n 0, 1) := by decide +kernel
theorem d_P_at_88 : decode c_P_at 88 = .ok (.getfield 41, 3) := by decide +kernel
theorem d_P_at_91 : decode c_P_at 91 = .ok (.getfield 119, 3) := by decide +kernel
theorem d_P_at_94 : decode c_P_at 94 = .ok (.iload_n 3, 1) := by decide +kernel
theorem d_P_at_95 : decode c_P_at 95 = .ok (.iaload, 1) := by decide +kernel
theorem d_P_at_96 : decode c_P_at 96 = .ok (.i2l, 1) := by decide +kernel
theorem d_P_at_97 : decode c_P_at 97 = .ok (.lreturn, 1) := by decide +kernel
theorem d_P_at_98 : decode c_P_at 98 = .ok (.aload_n 0, 1) := by decide +kernel
theorem d_P_at_99 : decode c_P_at 99 = .ok (.getfield 41, 3) := by decide +kernel
theorem d_P_at_102 : decode c_P_at 102 = .ok (.getfield 122, 3) := by decide +kernel
theorem d_P_at_105 : decode c_P_at 105 = .ok (.iload_n 3, 1) := by decide +kernel
theorem d_P_at_106 : decode c_P_at 106 = .ok (.laload, 1) := by decide +kernel
theorem d_P_at_107 : decode c_P_at 107 = .ok (.lreturn, 1) := by decide +kernel
theorem d_P_at_108 : decode c_P_at 108 = .ok (.aload_n 0, 1) := by decide +kernel
theorem d_P_at_109 : decode c_P_at 109 = .ok (.getfield 41, 3) := by decide +kernel
theorem d_P_at_112 : decode c_P_at 112 = .ok (.getfield 125, 3) := by decide +kernel
theorem d_P_at_115 : decode c_P_at 115 = .ok (.iload_n 3, 1) := by decide +kernel
theorem d_P_at_116 : decode c_P_at 116 = .ok (.laload, 1) := by decide +kernel
theorem d_P_at_117 : decode c_P_at 117 = .ok (.lreturn, 1) := by decide +kernel
theorem d_P_at_118 : decode c_P_at 118 = .ok (.new 128, 3) := by decide +kernel
theorem d_P_at_121 : decode c_P_at 121 = .ok (.dup, 1) := by decide +kernel
theorem d_P_at_122 : decode c_P_at 122 = .ok (.ldc 130, 2) := by decide +kernel
theorem d_P_at_124 : decode c_P_at 124 = .ok (.invokespecial 132, 3) := by decide +kernel
theorem d_P_at_127 : decode c_P_at 127 = .ok (.athrow, 1) := by decide +kernel
theorem d_P_proved_0 : decode c_P_proved 0 = .ok (.aload_n 0, 1) := by decide +kernel
theorem d_P_proved_1 : decode c_P_proved 1 = .ok (.getfield 96, 3) := by decide +kernel
theorem d_P_proved_4 : decode c_P_proved 4 = .ok (.ireturn, 1) := by decide +kernel
theorem d_P_gap_0 : decode c_P_gap 0 = .ok (.lload_n 1, 1) := by decide +kernel
theorem d_P_gap_1 : decode c_P_gap 1 = .ok (.invokestatic 53, 3) := by decide +kernel
theorem d_P_gap_4 : decode c_P_gap 4 = .ok (.aload_n 0, 1) := by decide +kernel
theorem d_P_gap_5 : decode c_P_gap 5 = .ok (.getfield 133, 3) := by decide +kernel
theorem d_P_gap_8 : decode c_P_gap 8 = .ok (.lload_n 1, 1) := by decide +kernel
theorem d_P_gap_9 : decode c_P_gap 9 = .ok (.lcmp, 1) := by decide +kernel
theorem d_P_gap_10 : decode c_P_gap 10 = .ok (.ifCond .eq 7, 3) := by decide +kernel
theorem d_P_gap_13 : decode c_P_gap 13 = .ok (.iconst 1, 1) := by decide +kernel
theorem d_P_gap_14 : decode c_P_gap 14 = .ok (.goto 4, 3) := by decide +kernel
theorem d_P_gap_17 : decode c_P_gap 17 = .ok (.iconst 0, 1) := by decide +kernel
theorem d_P_gap_18 : decode c_P_gap 18 = .ok (.istore_n 3, 1) := by decide +kernel
theorem d_P_gap_19 : decode c_P_gap 19 = .ok (.aload_n 0, 1) := by decide +kernel
theorem d_P_gap_20 : decode c_P_gap 20 = .ok (.lload_n 1, 1) := by decide +kernel
theorem d_P_gap_21 : decode c_P_gap 21 = .ok (.putfield 133, 3) := by decide +kernel
theorem d_P_gap_24 : decode c_P_gap 24 = .ok (.iload_n 3, 1) := by decide +kernel
theorem d_P_gap_25 : decode c_P_gap 25 = .ok (.ireturn, 1) := by decide +kernel
theorem d_P_tab_0 : decode c_P_tab 0 = .ok (.aload_n 0, 1) := by decide +kernel
theorem d_P_tab_1 : decode c_P_tab 1 = .ok (.iload_n 1, 1) := by decide +kernel
theorem d_P_tab_2 : decode c_P_tab 2 = .ok (.invokevirtual 103, 3) := by decide +kernel
theorem d_P_tab_5 : decode c_P_tab 5 = .ok (.iload_n 2, 1) := by decide +kernel
theorem d_P_tab_6 : decode c_P_tab 6 = .ok (.invokestatic 136, 3) := by decide +kernel
theorem d_P_tab_9 : decode c_P_tab 9 = .ok (.iload_n 3, 1) := by decide +kernel
theorem d_P_tab_10 : decode c_P_tab 10 = .ok (.invokestatic 139, 3) := by decide +kernel
theorem d_P_tab_13 : decode c_P_tab 13 = .ok (.aload_n 0, 1) := by decide +kernel
theorem d_P_tab_14 : decode c_P_tab 14 = .ok (.getfield 41, 3) := by decide +kernel
theorem d_P_tab_17 : decode c_P_tab 17 = .ok (.getfield 106, 3) := by decide +kernel
theorem d_P_tab_20 : decode c_P_tab 20 = .ok (.iload_n 1, 1) := by decide +kernel
theorem d_P_tab_21 : decode c_P_tab 21 = .ok (.iaload, 1) := by decide +kernel
theorem d_P_tab_22 : decode c_P_tab 22 = .ok (.istore 4, 2) := by decide +kernel
theorem d_P_tab_24 : decode c_P_tab 24 = .ok (.iload_n 2, 1) := by decide +kernel
theorem d_P_tab_25 : decode c_P_tab 25 = .ok (.iconst 0, 1) := by decide +kernel
theorem d_P_tab_26 : decode c_P_tab 26 = .ok (.iconst 2, 1) := by decide +kernel
theorem d_P_tab_27 : decode c_P_tab 27 = .ok (.aload_n 0, 1) := by decide +kernel
theorem d_P_tab_28 : decode c_P_tab 28 = .ok (.getfield 41, 3) := by decide +kernel
theorem d_P_tab_31 : decode c_P_tab 31 = .ok (.getfield 122, 3) := by decide +kernel
theorem d_P_tab_34 : decode c_P_tab 34 = .ok (.iload 4, 2) := by decide +kernel
theorem d_P_tab_36 : decode c_P_tab 36 = .ok (.laload, 1) := by decide +kernel
theorem d_P_tab_37 : decode c_P_tab 37 = .ok (.invokestatic 142, 3) := by decide +kernel
theorem d_P_tab_40 : decode c_P_tab 40 = .ok (.lstore 5, 2) := by decide +kernel
theorem d_P_tab_42 : decode c_P_tab 42 = .ok (.iload_n 2, 1) := by decide +kernel
theorem d_P_tab_43 : decode c_P_tab 43 = .ok (.iconst 1, 1) := by decide +kernel
theorem d_P_tab_44 : decode c_P_tab 44 = .ok (.iconst 3, 1) := by decide +kernel
theorem d_P_tab_45 : decode c_P_tab 45 = .ok (.aload_n 0, 1) := by decide +kernel
theorem d_P_tab_46 : decode c_P_tab 46 = .ok (.getfield 41, 3) := by decide +kernel
theorem d_P_tab_49 : decode c_P_tab 49 = .ok (.getfield 125, 3) := by decide +kernel
theorem d_P_tab_52 : decode c_P_tab 52 = .ok (.iload 4, 2) := by decide +kernel
theorem d_P_tab_54 : decode c_P_tab 54 = .ok (.laload, 1) := by decide +kernel
theorem d_P_tab_55 : decode c_P_tab 55 = .ok (.invokestatic 142, 3) := by decide +kernel
theorem d_P_tab_58 : decode c_P_tab 58 = .ok (.lstore 7, 2) := by decide +kernel
theorem d_P_tab_60 : decode c_P_tab 60 = .ok (.aload_n 0, 1) := by decide +kernel
theorem d_P_tab_61 : decode c_P_tab 61 = .ok (.getfield 22, 3) := by decide +kernel
theorem d_P_tab_64 : decode c_P_tab 64 = .ok (.aload_n 0, 1) := by decide +kernel
theorem d_P_tab_65 : decode c_P_tab 65 = .ok (.getfield 41, 3) := by decide +kernel
theorem d_P_tab_68 : decode c_P_tab 68 = .ok (.getfield 110, 3) := by decide +kernel
theorem d_P_tab_71 : decode c_P_tab 71 = .ok (.iload 4, 2) := by decide +kernel
theorem d_P_tab_73 : decode c_P_tab 73 = .ok (.iaload, 1) := by decide +kernel
theorem d_P_tab_74 : decode c_P_tab 74 = .ok (.aaload, 1) := by decide +kernel
theorem d_P_tab_75 : decode c_P_tab 75 = .ok (.lload 5, 2) := by decide +kernel
theorem d_P_tab_77 : decode c_P_tab 77 = .ok (.lload 7, 2) := by decide +kernel
theorem d_P_tab_79 : decode c_P_tab 79 = .ok (.aload_n 0, 1) := by decide +kernel
theorem d_P_tab_80 : decode c_P_tab 80 = .ok (.getfield 41, 3) := by decide +kernel
theorem d_P_tab_83 : decode c_P_tab 83 = .ok (.getfield 119, 3) := by decide +kernel
theorem d_P_tab_86 : decode c_P_tab 86 = .ok (.iload 4, 2) := by decide +kernel
theorem d_P_tab_88 : decode c_P_tab 88 = .ok (.iaload, 1) := by decide +kernel
theorem d_P_tab_89 : decode c_P_tab 89 = .ok (.invokevirtual 146, 3) := by decide +kernel
theorem d_P_tab_92 : decode c_P_tab 92 = .ok (.ifCond .eq 13, 3) := by decide +kernel
theorem d_P_tab_95 : decode c_P_tab 95 = .ok (.new 150, 3) := by decide +kernel
theorem d_P_tab_98 : decode c_P_tab 98 = .ok (.dup, 1) := by decide +kernel
theorem d_P_tab_99 : decode c_P_tab 99 = .ok (.ldc 152, 2) := by decide +kernel
theorem d_P_tab_101 : decode c_P_tab 101 = .ok (.invokespecial 154, 3) := by decide +kernel
theorem d_P_tab_104 : decode c_P_tab 104 = .ok (.athrow, 1) := by decide +kernel
theorem d_P_tab_105 : decode c_P_tab 105 = .ok (.iload_n 3, 1) := by decide +kernel
theorem d_P_tab_106 : decode c_P_tab 106 = .ok (.ifCond .ne 18, 3) := by decide +kernel
theorem d_P_tab_109 : decode c_P_tab 109 = .ok (.aload_n 0, 1) := by decide +kernel
theorem d_P_tab_110 : decode c_P_tab 110 = .ok (.getfield 41, 3) := by decide +kernel
theorem d_P_tab_113 : decode c_P_tab 113 = .ok (.getfield 113, 3) := by decide +kernel
theorem d_P_tab_116 : decode c_P_tab 116 = .ok (.iload_n 1, 1) := by decide +kernel
theorem d_P_tab_117 : decode c_P_tab 117 = .ok (.laload, 1) := by decide +kernel
theorem d_P_tab_118 : decode c_P_tab 118 = .ok (.lload 5, 2) := by decide +kernel
theorem d_P_tab_120 : decode c_P_tab 120 = .ok (.ladd, 1) := by decide +kernel
theorem d_P_tab_121 : decode c_P_tab 121 = .ok (.goto 16, 3) := by decide +kernel
theorem d_P_tab_124 : decode c_P_tab 124 = .ok (.aload_n 0, 1) := by decide +kernel
theorem d_P_tab_125 : decode c_P_tab 125 = .ok (.getfield 41, 3) := by decide +kernel
theorem d_P_tab_128 : decode c_P_tab 128 = .ok (.getfield 116, 3) := by decide +kernel
theorem d_P_tab_131 : decode c_P_tab 131 = .ok (.iload 4, 2) := by decide +kernel
theorem d_P_tab_133 : decode c_P_tab 133 = .ok (.laload, 1) := by decide +kernel
theorem d_P_tab_134 : decode c_P_tab 134 = .ok (.lload 7, 2) := by decide +kernel
theorem d_P_tab_136 : decode c_P_tab 136 = .ok (.ladd, 1) := by decide +kernel
theorem d_P_tab_137 : decode c_P_tab 137 = .ok (.lreturn, 1) := by decide +kernel
theorem d_P_score_0 : decode c_P_score 0 = .ok (.iload_n 1, 1) := by decide +kernel
theorem d_P_score_1 : decode c_P_score 1 = .ok (.i2l, 1) := by decide +kernel
theorem d_P_score_2 : decode c_P_score 2 = .ok (.lconst 0, 1) := by decide +kernel
theorem d_P_score_3 : decode c_P_score 3 = .ok (.aload_n 0, 1) := by decide +kernel
theorem d_P_score_4 : decode c_P_score 4 = .ok (.getfield 41, 3) := by decide +kernel
theorem d_P_score_7 : decode c_P_score 7 = .ok (.getfield 155, 3) := by decide +kernel
theorem d_P_score_10 : decode c_P_score 10 = .ok (.iconst 1, 1) := by decide +kernel
theorem d_P_score_11 : decode c_P_score 11 = .ok (.isub, 1) := by decide +kernel
theorem d_P_score_12 : decode c_P_score 12 = .ok (.i2l, 1) := by decide +kernel
theorem d_P_score_13 : decode c_P_score 13 = .ok (.invokestatic 63, 3) := by decide +kernel
theorem d_P_score_16 : decode c_P_score 16 = .ok (.ifCond .ne 13, 3) := by decide +kernel
theorem d_P_score_19 : decode c_P_score 19 = .ok (.new 128, 3) := by decide +kernel
theorem d_P_score_22 : decode c_P_score 22 = .ok (.dup, 1) := by decide +kernel
theorem d_P_score_23 : decode c_P_score 23 = .ok (.ldc 158, 2) := by decide +kernel
theorem d_P_score_25 : decode c_P_score 25 = .ok (.invokespecial 132, 3) := by decide +kernel
theorem d_P_score_28 : decode c_P_score 28 = .ok (.athrow, 1) := by decide +kernel
theorem d_P_score_29 : decode c_P_score 29 = .ok (.iload_n 2, 1) := by decide +kernel
theorem d_P_score_30 : decode c_P_score 30 = .ok (.invokestatic 139, 3) := by decide +kernel
theorem d_P_score_33 : decode c_P_score 33 = .ok (.iload_n 2, 1) := by decide +kernel
theorem d_P_score_34 : decode c_P_score 34 = .ok (.ifCond .ne 15, 3) := by decide +kernel
theorem d_P_score_37 : decode c_P_score 37 = .ok (.aload_n 0, 1) := by decide +kernel
theorem d_P_score_38 : decode c_P_score 38 = .ok (.getfield 41, 3) := by decide +kernel
theorem d_P_score_41 : decode c_P_score 41 = .ok (.getfield 160, 3) := by decide +kernel
theorem d_P_score_44 : decode c_P_score 44 = .ok (.iload_n 1, 1) := by decide +kernel
theorem d_P_score_45 : decode c_P_score 45 = .ok (.laload, 1) := by decide +kernel
theorem d_P_score_46 : decode c_P_score 46 = .ok (.goto 13, 3) := by decide +kernel
theorem d_P_score_49 : decode c_P_score 49 = .ok (.aload_n 0, 1) := by decide +kernel
theorem d_P_score_50 : decode c_P_score 50 = .ok (.getfield 41, 3) := by decide +kernel
theorem d_P_score_53 : decode c_P_score 53 = .ok (.getfield 163, 3) := by decide +kernel
theorem d_P_score_56 : decode c_P_score 56 = .ok (.iload_n 1, 1) := by decide +kernel
theorem d_P_score_57 : decode c_P_score 57 = .ok (.iaload, 1) := by decide +kernel
theorem d_P_score_58 : decode c_P_score 58 = .ok (.i2l, 1) := by decide +kernel
theorem d_P_score_59 : decode c_P_score 59 = .ok (.lreturn, 1) := by decide +kernel
