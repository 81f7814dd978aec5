theorem d_Y_init_0 : decode c_Y_init 0 = .ok (.aload_n 0, 1) := by decide +kernel
theorem d_Y_init_1 : decode c_Y_init 1 = .ok (.invokespecial 3, 3) := by decide +kernel
theorem d_Y_init_4 : decode c_Y_init 4 = .ok (.aload_n 0, 1) := by decide +kernel
theorem d_Y_init_5 : decode c_Y_init 5 = .ok (.bipush 8, 2) := by decide +kernel
theorem d_Y_init_7 : decode c_Y_init 7 = .ok (.newarray .int, 2) := by decide +kernel
theorem d_Y_init_9 : decode c_Y_init 9 = .ok (.putfield 9, 3) := by decide +kernel
theorem d_Y_init_12 : decode c_Y_init 12 = .ok (.aload_n 0, 1) := by decide +kernel
theorem d_Y_init_13 : decode c_Y_init 13 = .ok (.bipush 8, 2) := by decide +kernel
theorem d_Y_init_15 : decode c_Y_init 15 = .ok (.newarray .int, 2) := by decide +kernel
theorem d_Y_init_17 : decode c_Y_init 17 = .ok (.putfield 15, 3) := by decide +kernel
theorem d_Y_init_20 : decode c_Y_init 20 = .ok (.aload_n 0, 1) := by decide +kernel
theorem d_Y_init_21 : decode c_Y_init 21 = .ok (.bipush 8, 2) := by decide +kernel
theorem d_Y_init_23 : decode c_Y_init 23 = .ok (.newarray .int, 2) := by decide +kernel
theorem d_Y_init_25 : decode c_Y_init 25 = .ok (.putfield 18, 3) := by decide +kernel
theorem d_Y_init_28 : decode c_Y_init 28 = .ok (.aload_n 0, 1) := by decide +kernel
theorem d_Y_init_29 : decode c_Y_init 29 = .ok (.bipush 8, 2) := by decide +kernel
theorem d_Y_init_31 : decode c_Y_init 31 = .ok (.newarray .long, 2) := by decide +kernel
theorem d_Y_init_33 : decode c_Y_init 33 = .ok (.putfield 21, 3) := by decide +kernel
theorem d_Y_init_36 : decode c_Y_init 36 = .ok (.aload_n 0, 1) := by decide +kernel
theorem d_Y_init_37 : decode c_Y_init 37 = .ok (.bipush 8, 2) := by decide +kernel
theorem d_Y_init_39 : decode c_Y_init 39 = .ok (.newarray .long, 2) := by decide +kernel
theorem d_Y_init_41 : decode c_Y_init 41 = .ok (.putfield 25, 3) := by decide +kernel
theorem d_Y_init_44 : decode c_Y_init 44 = .ok (.aload_n 0, 1) := by decide +kernel
theorem d_Y_init_45 : decode c_Y_init 45 = .ok (.bipush 8, 2) := by decide +kernel
theorem d_Y_init_47 : decode c_Y_init 47 = .ok (.newarray .long, 2) := by decide +kernel
theorem d_Y_init_49 : decode c_Y_init 49 = .ok (.putfield 28, 3) := by decide +kernel
theorem d_Y_init_52 : decode c_Y_init 52 = .ok (.aload_n 0, 1) := by decide +kernel
theorem d_Y_init_53 : decode c_Y_init 53 = .ok (.sipush 160, 3) := by decide +kernel
theorem d_Y_init_56 : decode c_Y_init 56 = .ok (.newarray .int, 2) := by decide +kernel
theorem d_Y_init_58 : decode c_Y_init 58 = .ok (.putfield 31, 3) := by decide +kernel
theorem d_Y_init_61 : decode c_Y_init 61 = .ok (.aload_n 0, 1) := by decide +kernel
theorem d_Y_init_62 : decode c_Y_init 62 = .ok (.sipush 160, 3) := by decide +kernel
theorem d_Y_init_65 : decode c_Y_init 65 = .ok (.newarray .long, 2) := by decide +kernel
theorem d_Y_init_67 : decode c_Y_init 67 = .ok (.putfield 34, 3) := by decide +kernel
theorem d_Y_init_70 : decode c_Y_init 70 = .ok (.aload_n 0, 1) := by decide +kernel
theorem d_Y_init_71 : decode c_Y_init 71 = .ok (.sipush 160, 3) := by decide +kernel
theorem d_Y_init_74 : decode c_Y_init 74 = .ok (.newarray .boolean, 2) := by decide +kernel
theorem d_Y_init_76 : decode c_Y_init 76 = .ok (.putfield 37, 3) := by decide +kernel
theorem d_Y_init_79 : decode c_Y_init 79 = .ok (.aload_n 0, 1) := by decide +kernel
theorem d_Y_init_80 : decode c_Y_init 80 = .ok (.bipush 16, 2) := by decide +kernel
theorem d_Y_init_82 : decode c_Y_init 82 = .ok (.newarray .long, 2) := by decide +kernel
theorem d_Y_init_84 : decode c_Y_init 84 = .ok (.putfield 41, 3) := by decide +kernel
theorem d_Y_init_87 : decode c_Y_init 87 = .ok (.aload_n 0, 1) := by decide +kernel
theorem d_Y_init_88 : decode c_Y_init 88 = .ok (.bipush 16, 2) := by decide +kernel
theorem d_Y_init_90 : decode c_Y_init 90 = .ok (.newarray .int, 2) := by decide +kernel
theorem d_Y_init_92 : decode c_Y_init 92 = .ok (.putfield 44, 3) := by decide +kernel
theorem d_Y_init_95 : decode c_Y_init 95 = .ok (.return_, 1) := by decide +kernel
theorem d_Y_begin_0 : decode c_Y_begin 0 = .ok (.aload_n 0, 1) := by decide +kernel
theorem d_Y_begin_1 : decode c_Y_begin 1 = .ok (.iconst 0, 1) := by decide +kernel
theorem d_Y_begin_2 : decode c_Y_begin 2 = .ok (.putfield 47, 3) := by decide +kernel
theorem d_Y_begin_5 : decode c_Y_begin 5 = .ok (.aload_n 0, 1) := by decide +kernel
theorem d_Y_begin_6 : decode c_Y_begin 6 = .ok (.iconst 0, 1) := by decide +kernel
theorem d_Y_begin_7 : decode c_Y_begin 7 = .ok (.putfield 51, 3) := by decide +kernel
theorem d_Y_begin_10 : decode c_Y_begin 10 = .ok (.aload_n 0, 1) := by decide +kernel
theorem d_Y_begin_11 : decode c_Y_begin 11 = .ok (.iconst 0, 1) := by decide +kernel
theorem d_Y_begin_12 : decode c_Y_begin 12 = .ok (.putfield 54, 3) := by decide +kernel
theorem d_Y_begin_15 : decode c_Y_begin 15 = .ok (.aload_n 0, 1) := by decide +kernel
theorem d_Y_begin_16 : decode c_Y_begin 16 = .ok (.lload_n 1, 1) := by decide +kernel
theorem d_Y_begin_17 : decode c_Y_begin 17 = .ok (.putfield 57, 3) := by decide +kernel
theorem d_Y_begin_20 : decode c_Y_begin 20 = .ok (.aload_n 0, 1) := by decide +kernel
theorem d_Y_begin_21 : decode c_Y_begin 21 = .ok (.lload_n 3, 1) := by decide +kernel
theorem d_Y_begin_22 : decode c_Y_begin 22 = .ok (.putfield 61, 3) := by decide +kernel
theorem d_Y_begin_25 : decode c_Y_begin 25 = .ok (.aload_n 0, 1) := by decide +kernel
theorem d_Y_begin_26 : decode c_Y_begin 26 = .ok (.lload 5, 2) := by decide +kernel
theorem d_Y_begin_28 : decode c_Y_begin 28 = .ok (.putfield 64, 3) := by decide +kernel
theorem d_Y_begin_31 : decode c_Y_begin 31 = .ok (.return_, 1) := by decide +kernel
theorem d_Y_addRow_0 : decode c_Y_addRow 0 = .ok (.aload_n 0, 1) := by decide +kernel
theorem d_Y_addRow_1 : decode c_Y_addRow 1 = .ok (.getfield 47, 3) := by decide +kernel
theorem d_Y_addRow_4 : decode c_Y_addRow 4 = .ok (.bipush 8, 2) := by decide +kernel
theorem d_Y_addRow_6 : decode c_Y_addRow 6 = .ok (.if_icmp .lt 4, 3) := by decide +kernel
theorem d_Y_addRow_9 : decode c_Y_addRow 9 = .ok (.return_, 1) := by decide +kernel
theorem d_Y_addRow_10 : decode c_Y_addRow 10 = .ok (.aload_n 0, 1) := by decide +kernel
theorem d_Y_addRow_11 : decode c_Y_addRow 11 = .ok (.getfield 9, 3) := by decide +kernel
theorem d_Y_addRow_14 : decode c_Y_addRow 14 = .ok (.aload_n 0, 1) := by decide +kernel
theorem d_Y_addRow_15 : decode c_Y_addRow 15 = .ok (.getfield 47, 3) := by decide +kernel
theorem d_Y_addRow_18 : decode c_Y_addRow 18 = .ok (.iload_n 1, 1) := by decide +kernel
theorem d_Y_addRow_19 : decode c_Y_addRow 19 = .ok (.iastore, 1) := by decide +kernel
theorem d_Y_addRow_20 : decode c_Y_addRow 20 = .ok (.aload_n 0, 1) := by decide +kernel
theorem d_Y_addRow_21 : decode c_Y_addRow 21 = .ok (.getfield 15, 3) := by decide +kernel
theorem d_Y_addRow_24 : decode c_Y_addRow 24 = .ok (.aload_n 0, 1) := by decide +kernel
theorem d_Y_addRow_25 : decode c_Y_addRow 25 = .ok (.getfield 47, 3) := by decide +kernel
theorem d_Y_addRow_28 : decode c_Y_addRow 28 = .ok (.iload_n 2, 1) := by decide +kernel
theorem d_Y_addRow_29 : decode c_Y_addRow 29 = .ok (.iastore, 1) := by decide +kernel
theorem d_Y_addRow_30 : decode c_Y_addRow 30 = .ok (.aload_n 0, 1) := by decide +kernel
theorem d_Y_addRow_31 : decode c_Y_addRow 31 = .ok (.getfield 18, 3) := by decide +kernel
theorem d_Y_addRow_34 : decode c_Y_addRow 34 = .ok (.aload_n 0, 1) := by decide +kernel
theorem d_Y_addRow_35 : decode c_Y_addRow 35 = .ok (.getfield 47, 3) := by decide +kernel
theorem d_Y_addRow_38 : decode c_Y_addRow 38 = .ok (.iload 7, 2) := by decide +kernel
theorem d_Y_addRow_40 : decode c_Y_addRow 40 = .ok (.iastore, 1) := by decide +kernel
theorem d_Y_addRow_41 : decode c_Y_addRow 41 = .ok (.aload_n 0, 1) := by decide +kernel
theorem d_Y_addRow_42 : decode c_Y_addRow 42 = .ok (.getfield 21, 3) := by decide +kernel
theorem d_Y_addRow_45 : decode c_Y_addRow 45 = .ok (.aload_n 0, 1) := by decide +kernel
theorem d_Y_addRow_46 : decode c_Y_addRow 46 = .ok (.getfield 47, 3) := by decide +kernel
theorem d_Y_addRow_49 : decode c_Y_addRow 49 = .ok (.aload_n 0, 1) := by decide +kernel
theorem d_Y_addRow_50 : decode c_Y_addRow 50 = .ok (.getfield 61, 3) := by decide +kernel
theorem d_Y_addRow_53 : decode c_Y_addRow 53 = .ok (.lastore, 1) := by decide +kernel
theorem d_Y_addRow_54 : decode c_Y_addRow 54 = .ok (.aload_n 0, 1) := by decide +kernel
theorem d_Y_addRow_55 : decode c_Y_addRow 55 = .ok (.getfield 25, 3) := by decide +kernel
theorem d_Y_addRow_58 : decode c_Y_addRow 58 = .ok (.aload_n 0, 1) := by decide +kernel
theorem d_Y_addRow_59 : decode c_Y_addRow 59 = .ok (.getfield 47, 3) := by decide +kernel
theorem d_Y_addRow_62 : decode c_Y_addRow 62 = .ok (.lload_n 3, 1) := by decide +kernel
theorem d_Y_addRow_63 : decode c_Y_addRow 63 = .ok (.lastore, 1) := by decide +kernel
theorem d_Y_addRow_64 : decode c_Y_addRow 64 = .ok (.aload_n 0, 1) := by decide +kernel
theorem d_Y_addRow_65 : decode c_Y_addRow 65 = .ok (.getfield 28, 3) := by decide +kernel
theorem d_Y_addRow_68 : decode c_Y_addRow 68 = .ok (.aload_n 0, 1) := by decide +kernel
theorem d_Y_addRow_69 : decode c_Y_addRow 69 = .ok (.getfield 47, 3) := by decide +kernel
theorem d_Y_addRow_72 : decode c_Y_addRow 72 = .ok (.lload 5, 2) := by decide +kernel
theorem d_Y_addRow_74 : decode c_Y_addRow 74 = .ok (.lastore, 1) := by decide +kernel
theorem d_Y_addRow_75 : decode c_Y_addRow 75 = .ok (.aload_n 0, 1) := by decide +kernel
theorem d_Y_addRow_76 : decode c_Y_addRow 76 = .ok (.iload 7, 2) := by decide +kernel
theorem d_Y_addRow_78 : decode c_Y_addRow 78 = .ok (.lload_n 3, 1) := by decide +kernel
theorem d_Y_addRow_79 : decode c_Y_addRow 79 = .ok (.aload_n 0, 1) := by decide +kernel
theorem d_Y_addRow_80 : decode c_Y_addRow 80 = .ok (.getfield 64, 3) := by decide +kernel
theorem d_Y_addRow_83 : decode c_Y_addRow 83 = .ok (.ladd, 1) := by decide +kernel
theorem d_Y_addRow_84 : decode c_Y_addRow 84 = .ok (.invokevirtual 67, 3) := by decide +kernel
theorem d_Y_addRow_87 : decode c_Y_addRow 87 = .ok (.aload_n 0, 1) := by decide +kernel
theorem d_Y_addRow_88 : decode c_Y_addRow 88 = .ok (.aload_n 0, 1) := by decide +kernel
theorem d_Y_addRow_89 : decode c_Y_addRow 89 = .ok (.getfield 61, 3) := by decide +kernel
theorem d_Y_addRow_92 : decode c_Y_addRow 92 = .ok (.iload 7, 2) := by decide +kernel
theorem d_Y_addRow_94 : decode c_Y_addRow 94 = .ok (.invokevirtual 71, 3) := by decide +kernel
theorem d_Y_addRow_97 : decode c_Y_addRow 97 = .ok (.aload_n 0, 1) := by decide +kernel
theorem d_Y_addRow_98 : decode c_Y_addRow 98 = .ok (.aload_n 0, 1) := by decide +kernel
theorem d_Y_addRow_99 : decode c_Y_addRow 99 = .ok (.getfield 61, 3) := by decide +kernel
theorem d_Y_addRow_102 : decode c_Y_addRow 102 = .ok (.lload 5, 2) := by decide +kernel
theorem d_Y_addRow_104 : decode c_Y_addRow 104 = .ok (.ladd, 1) := by decide +kernel
theorem d_Y_addRow_105 : decode c_Y_addRow 105 = .ok (.iload 7, 2) := by decide +kernel
theorem d_Y_addRow_107 : decode c_Y_addRow 107 = .ok (.invokevirtual 71, 3) := by decide +kernel
theorem d_Y_addRow_110 : decode c_Y_addRow 110 = .ok (.aload_n 0, 1) := by decide +kernel
theorem d_Y_addRow_111 : decode c_Y_addRow 111 = .ok (.dup, 1) := by decide +kernel
theorem d_Y_addRow_112 : decode c_Y_addRow 112 = .ok (.getfield 61, 3) := by decide +kernel
theorem d_Y_addRow_115 : decode c_Y_addRow 115 = .ok (.lload 5, 2) := by decide +kernel
theorem d_Y_addRow_117 : decode c_Y_addRow 117 = .ok (.aload_n 0, 1) := by decide +kernel
theorem d_Y_addRow_118 : decode c_Y_addRow 118 = .ok (.getfield 64, 3) := by decide +kernel
theorem d_Y_addRow_121 : decode c_Y_addRow 121 = .ok (.ladd, 1) := by decide +kernel
theorem d_Y_addRow_122 : decode c_Y_addRow 122 = .ok (.ladd, 1) := by decide +kernel
theorem d_Y_addRow_123 : decode c_Y_addRow 123 = .ok (.putfield 61, 3) := by decide +kernel
theorem d_Y_addRow_126 : decode c_Y_addRow 126 = .ok (.aload_n 0, 1) := by decide +kernel
theorem d_Y_addRow_127 : decode c_Y_addRow 127 = .ok (.dup, 1) := by decide +kernel
theorem d_Y_addRow_128 : decode c_Y_addRow 128 = .ok (.getfield 47, 3) := by decide +kernel
theorem d_Y_addRow_131 : decode c_Y_addRow 131 = .ok (.iconst 1, 1) := by decide +kernel
theorem d_Y_addRow_132 : decode c_Y_addRow 132 = .ok (.iadd, 1) := by decide +kernel
theorem d_Y_addRow_133 : decode c_Y_addRow 133 = .ok (.putfield 47, 3) := by decide +kernel
theorem d_Y_addRow_136 : decode c_Y_addRow 136 = .ok (.return_, 1) := by decide +kernel
theorem d_Y_addCopies_0 : decode c_Y_addCopies 0 = .ok (.iconst 0, 1) := by decide +kernel
theorem d_Y_addCopies_1 : decode c_Y_addCopies 1 = .ok (.istore 4, 2) := by decide +kernel
theorem d_Y_addCopies_3 : decode c_Y_addCopies 3 = .ok (.iload 4, 2) := by decide +kernel
theorem d_Y_addCopies_5 : decode c_Y_addCopies 5 = .ok (.iload_n 1, 1) := by decide +kernel
theorem d_Y_addCopies_6 : decode c_Y_addCopies 6 = .ok (.if_icmp .ge 71, 3) := by decide +kernel
theorem d_Y_addCopies_9 : decode c_Y_addCopies 9 = .ok (.aload_n 0, 1) := by decide +kernel
theorem d_Y_addCopies_10 : decode c_Y_addCopies 10 = .ok (.getfield 51, 3) := by decide +kernel
theorem d_Y_addCopies_13 : decode c_Y_addCopies 13 = .ok (.sipush 160, 3) := by decide +kernel
theorem d_Y_addCopies_16 : decode c_Y_addCopies 16 = .ok (.if_icmp .ge 61, 3) := by decide +kernel
theorem d_Y_addCopies_19 : decode c_Y_addCopies 19 = .ok (.aload_n 0, 1) := by decide +kernel
theorem d_Y_addCopies_20 : decode c_Y_addCopies 20 = .ok (.getfield 31, 3) := by decide +kernel
theorem d_Y_addCopies_23 : decode c_Y_addCopies 23 = .ok (.aload_n 0, 1) := by decide +kernel
theorem d_Y_addCopies_24 : decode c_Y_addCopies 24 = .ok (.getfield 51, 3) := by decide +kernel
theorem d_Y_addCopies_27 : decode c_Y_addCopies 27 = .ok (.aload_n 0, 1) := by decide +kernel
theorem d_Y_addCopies_28 : decode c_Y_addCopies 28 = .ok (.getfield 47, 3) := by decide +kernel
theorem d_Y_addCopies_31 : decode c_Y_addCopies 31 = .ok (.iastore, 1) := by decide +kernel
theorem d_Y_addCopies_32 : decode c_Y_addCopies 32 = .ok (.aload_n 0, 1) := by decide +kernel
theorem d_Y_addCopies_33 : decode c_Y_addCopies 33 = .ok (.getfield 34, 3) := by decide +kernel
theorem d_Y_addCopies_36 : decode c_Y_addCopies 36 = .ok (.aload_n 0, 1) := by decide +kernel
theorem d_Y_addCopies_37 : decode c_Y_addCopies 37 = .ok (.getfield 51, 3) := by decide +kernel
theorem d_Y_addCopies_40 : decode c_Y_addCopies 40 = .ok (.aload_n 0, 1) := by decide +kernel
theorem d_Y_addCopies_41 : decode c_Y_addCopies 41 = .ok (.getfield 57, 3) := by decide +kernel
theorem d_Y_addCopies_44 : decode c_Y_addCopies 44 = .ok (.iload 4, 2) := by decide +kernel
theorem d_Y_addCopies_46 : decode c_Y_addCopies 46 = .ok (.i2l, 1) := by decide +kernel
theorem d_Y_addCopies_47 : decode c_Y_addCopies 47 = .ok (.lload_n 2, 1) := by decide +kernel
theorem d_Y_addCopies_48 : decode c_Y_addCopies 48 = .ok (.lmul, 1) := by decide +kernel
theorem d_Y_addCopies_49 : decode c_Y_addCopies 49 = .ok (.ladd, 1) := by decide +kernel
theorem d_Y_addCopies_50 : decode c_Y_addCopies 50 = .ok (.lastore, 1) := by decide +kernel
theorem d_Y_addCopies_51 : decode c_Y_addCopies 51 = .ok (.aload_n 0, 1) := by decide +kernel
theorem d_Y_addCopies_52 : decode c_Y_addCopies 52 = .ok (.getfield 37, 3) := by decide +kernel
theorem d_Y_addCopies_55 : decode c_Y_addCopies 55 = .ok (.aload_n 0, 1) := by decide +kernel
theorem d_Y_addCopies_56 : decode c_Y_addCopies 56 = .ok (.getfield 51, 3) := by decide +kernel
theorem d_Y_addCopies_59 : decode c_Y_addCopies 59 = .ok (.iconst 0, 1) := by decide +kernel
theorem d_Y_addCopies_60 : decode c_Y_addCopies 60 = .ok (.bastore, 1) := by decide +kernel
theorem d_Y_addCopies_61 : decode c_Y_addCopies 61 = .ok (.aload_n 0, 1) := by decide +kernel
theorem d_Y_addCopies_62 : decode c_Y_addCopies 62 = .ok (.dup, 1) := by decide +kernel
theorem d_Y_addCopies_63 : decode c_Y_addCopies 63 = .ok (.getfield 51, 3) := by decide +kernel
theorem d_Y_addCopies_66 : decode c_Y_addCopies 66 = .ok (.iconst 1, 1) := by decide +kernel
theorem d_Y_addCopies_67 : decode c_Y_addCopies 67 = .ok (.iadd, 1) := by decide +kernel
theorem d_Y_addCopies_68 : decode c_Y_addCopies 68 = .ok (.putfield 51, 3) := by decide +kernel
theorem d_Y_addCopies_71 : decode c_Y_addCopies 71 = .ok (.iinc 4 1, 3) := by decide +kernel
theorem d_Y_addCopies_74 : decode c_Y_addCopies 74 = .ok (.goto (-71), 3) := by decide +kernel
theorem d_Y_addCopies_77 : decode c_Y_addCopies 77 = .ok (.return_, 1) := by decide +kernel
theorem d_Y_addScore_0 : decode c_Y_addScore 0 = .ok (.aload_n 0, 1) := by decide +kernel
theorem d_Y_addScore_1 : decode c_Y_addScore 1 = .ok (.getfield 54, 3) := by decide +kernel
theorem d_Y_addScore_4 : decode c_Y_addScore 4 = .ok (.ifCond .le 37, 3) := by decide +kernel
theorem d_Y_addScore_7 : decode c_Y_addScore 7 = .ok (.aload_n 0, 1) := by decide +kernel
theorem d_Y_addScore_8 : decode c_Y_addScore 8 = .ok (.getfield 41, 3) := by decide +kernel
theorem d_Y_addScore_11 : decode c_Y_addScore 11 = .ok (.aload_n 0, 1) := by decide +kernel
theorem d_Y_addScore_12 : decode c_Y_addScore 12 = .ok (.getfield 54, 3) := by decide +kernel
theorem d_Y_addScore_15 : decode c_Y_addScore 15 = .ok (.iconst 1, 1) := by decide +kernel
theorem d_Y_addScore_16 : decode c_Y_addScore 16 = .ok (.isub, 1) := by decide +kernel
theorem d_Y_addScore_17 : decode c_Y_addScore 17 = .ok (.laload, 1) := by decide +kernel
theorem d_Y_addScore_18 : decode c_Y_addScore 18 = .ok (.lload_n 1, 1) := by decide +kernel
theorem d_Y_addScore_19 : decode c_Y_addScore 19 = .ok (.lcmp, 1) := by decide +kernel
theorem d_Y_addScore_20 : decode c_Y_addScore 20 = .ok (.ifCond .ne 21, 3) := by decide +kernel
theorem d_Y_addScore_23 : decode c_Y_addScore 23 = .ok (.aload_n 0, 1) := by decide +kernel
theorem d_Y_addScore_24 : decode c_Y_addScore 24 = .ok (.getfield 44, 3) := by decide +kernel
theorem d_Y_addScore_27 : decode c_Y_addScore 27 = .ok (.aload_n 0, 1) := by decide +kernel
theorem d_Y_addScore_28 : decode c_Y_addScore 28 = .ok (.getfield 54, 3) := by decide +kernel
theorem d_Y_addScore_31 : decode c_Y_addScore 31 = .ok (.iconst 1, 1) := by decide +kernel
theorem d_Y_addScore_32 : decode c_Y_addScore 32 = .ok (.isub, 1) := by decide +kernel
theorem d_Y_addScore_33 : decode c_Y_addScore 33 = .ok (.dup2, 1) := by decide +kernel
theorem d_Y_addScore_34 : decode c_Y_addScore 34 = .ok (.iaload, 1) := by decide +kernel
theorem d_Y_addScore_35 : decode c_Y_addScore 35 = .ok (.iload_n 3, 1) := by decide +kernel
theorem d_Y_addScore_36 : decode c_Y_addScore 36 = .ok (.iadd, 1) := by decide +kernel
theorem d_Y_addScore_37 : decode c_Y_addScore 37 = .ok (.iastore, 1) := by decide +kernel
theorem d_Y_addScore_38 : decode c_Y_addScore 38 = .ok (.goto 45, 3) := by decide +kernel
theorem d_Y_addScore_41 : decode c_Y_addScore 41 = .ok (.aload_n 0, 1) := by decide +kernel
theorem d_Y_addScore_42 : decode c_Y_addScore 42 = .ok (.getfield 54, 3) := by decide +kernel
theorem d_Y_addScore_45 : decode c_Y_addScore 45 = .ok (.aload_n 0, 1) := by decide +kernel
theorem d_Y_addScore_46 : decode c_Y_addScore 46 = .ok (.getfield 41, 3) := by decide +kernel
theorem d_Y_addScore_49 : decode c_Y_addScore 49 = .ok (.arraylength, 1) := by decide +kernel
theorem d_Y_addScore_50 : decode c_Y_addScore 50 = .ok (.if_icmp .ge 33, 3) := by decide +kernel
theorem d_Y_addScore_53 : decode c_Y_addScore 53 = .ok (.aload_n 0, 1) := by decide +kernel
theorem d_Y_addScore_54 : decode c_Y_addScore 54 = .ok (.getfield 41, 3) := by decide +kernel
theorem d_Y_addScore_57 : decode c_Y_addScore 57 = .ok (.aload_n 0, 1) := by decide +kernel
theorem d_Y_addScore_58 : decode c_Y_addScore 58 = .ok (.getfield 54, 3) := by decide +kernel
theorem d_Y_addScore_61 : decode c_Y_addScore 61 = .ok (.lload_n 1, 1) := by decide +kernel
theorem d_Y_addScore_62 : decode c_Y_addScore 62 = .ok (.lastore, 1) := by decide +kernel
theorem d_Y_addScore_63 : decode c_Y_addScore 63 = .ok (.aload_n 0, 1) := by decide +kernel
theorem d_Y_addScore_64 : decode c_Y_addScore 64 = .ok (.getfield 44, 3) := by decide +kernel
theorem d_Y_addScore_67 : decode c_Y_addScore 67 = .ok (.aload_n 0, 1) := by decide +kernel
theorem d_Y_addScore_68 : decode c_Y_addScore 68 = .ok (.getfield 54, 3) := by decide +kernel
theorem d_Y_addScore_71 : decode c_Y_addScore 71 = .ok (.iload_n 3, 1) := by decide +kernel
theorem d_Y_addScore_72 : decode c_Y_addScore 72 = .ok (.iastore, 1) := by decide +kernel
theorem d_Y_addScore_73 : decode c_Y_addScore 73 = .ok (.aload_n 0, 1) := by decide +kernel
theorem d_Y_addScore_74 : decode c_Y_addScore 74 = .ok (.dup, 1) := by decide +kernel
theorem d_Y_addScore_75 : decode c_Y_addScore 75 = .ok (.getfield 54, 3) := by decide +kernel
theorem d_Y_addScore_78 : decode c_Y_addScore 78 = .ok (.iconst 1, 1) := by decide +kernel
theorem d_Y_addScore_79 : decode c_Y_addScore 79 = .ok (.iadd, 1) := by decide +kernel
theorem d_Y_addScore_80 : decode c_Y_addScore 80 = .ok (.putfield 54, 3) := by decide +kernel
theorem d_Y_addScore_83 : decode c_Y_addScore 83 = .ok (.return_, 1) := by decide +kernel
theorem d_Y_copyInOrder_0 : decode c_Y_copyInOrder 0 = .ok (.iload_n 1, 1) := by decide +kernel
theorem d_Y_copyInOrder_1 : decode c_Y_copyInOrder 1 = .ok (.ifCond .lt 11, 3) := by decide +kernel
theorem d_Y_copyInOrder_4 : decode c_Y_copyInOrder 4 = .ok (.iload_n 1, 1) := by decide +kernel
theorem d_Y_copyInOrder_5 : decode c_Y_copyInOrder 5 = .ok (.aload_n 0, 1) := by decide +kernel
theorem d_Y_copyInOrder_6 : decode c_Y_copyInOrder 6 = .ok (.getfield 51, 3) := by decide +kernel
theorem d_Y_copyInOrder_9 : decode c_Y_copyInOrder 9 = .ok (.if_icmp .lt 5, 3) := by decide +kernel
theorem d_Y_copyInOrder_12 : decode c_Y_copyInOrder 12 = .ok (.iconst (-1), 1) := by decide +kernel
theorem d_Y_copyInOrder_13 : decode c_Y_copyInOrder 13 = .ok (.ireturn, 1) := by decide +kernel
theorem d_Y_copyInOrder_14 : decode c_Y_copyInOrder 14 = .ok (.aload_n 0, 1) := by decide +kernel
theorem d_Y_copyInOrder_15 : decode c_Y_copyInOrder 15 = .ok (.iconst 0, 1) := by decide +kernel
theorem d_Y_copyInOrder_16 : decode c_Y_copyInOrder 16 = .ok (.invokevirtual 75, 3) := by decide +kernel
theorem d_Y_copyInOrder_19 : decode c_Y_copyInOrder 19 = .ok (.istore_n 2, 1) := by decide +kernel
theorem d_Y_copyInOrder_20 : decode c_Y_copyInOrder 20 = .ok (.iload_n 1, 1) := by decide +kernel
theorem d_Y_copyInOrder_21 : decode c_Y_copyInOrder 21 = .ok (.iload_n 2, 1) := by decide +kernel
theorem d_Y_copyInOrder_22 : decode c_Y_copyInOrder 22 = .ok (.if_icmp .ge 12, 3) := by decide +kernel
theorem d_Y_copyInOrder_25 : decode c_Y_copyInOrder 25 = .ok (.aload_n 0, 1) := by decide +kernel
theorem d_Y_copyInOrder_26 : decode c_Y_copyInOrder 26 = .ok (.iconst 0, 1) := by decide +kernel
theorem d_Y_copyInOrder_27 : decode c_Y_copyInOrder 27 = .ok (.iload_n 1, 1) := by decide +kernel
theorem d_Y_copyInOrder_28 : decode c_Y_copyInOrder 28 = .ok (.invokevirtual 79, 3) := by decide +kernel
theorem d_Y_copyInOrder_31 : decode c_Y_copyInOrder 31 = .ok (.goto 11, 3) := by decide +kernel
theorem d_Y_copyInOrder_34 : decode c_Y_copyInOrder 34 = .ok (.aload_n 0, 1) := by decide +kernel
theorem d_Y_copyInOrder_35 : decode c_Y_copyInOrder 35 = .ok (.iconst 1, 1) := by decide +kernel
theorem d_Y_copyInOrder_36 : decode c_Y_copyInOrder 36 = .ok (.iload_n 1, 1) := by decide +kernel
theorem d_Y_copyInOrder_37 : decode c_Y_copyInOrder 37 = .ok (.iload_n 2, 1) := by decide +kernel
theorem d_Y_copyInOrder_38 : decode c_Y_copyInOrder 38 = .ok (.isub, 1) := by decide +kernel
theorem d_Y_copyInOrder_39 : decode c_Y_copyInOrder 39 = .ok (.invokevirtual 79, 3) := by decide +kernel
theorem d_Y_copyInOrder_42 : decode c_Y_copyInOrder 42 = .ok (.ireturn, 1) := by decide +kernel
theorem d_Y_countOf_0 : decode c_Y_countOf 0 = .ok (.iconst 0, 1) := by decide +kernel
theorem d_Y_countOf_1 : decode c_Y_countOf 1 = .ok (.istore_n 2, 1) := by decide +kernel
theorem d_Y_countOf_2 : decode c_Y_countOf 2 = .ok (.iconst 0, 1) := by decide +kernel
theorem d_Y_countOf_3 : decode c_Y_countOf 3 = .ok (.istore_n 3, 1) := by decide +kernel
theorem d_Y_countOf_4 : decode c_Y_countOf 4 = .ok (.iload_n 3, 1) := by decide +kernel
theorem d_Y_countOf_5 : decode c_Y_countOf 5 = .ok (.aload_n 0, 1) := by decide +kernel
theorem d_Y_countOf_6 : decode c_Y_countOf 6 = .ok (.getfield 51, 3) := by decide +kernel
theorem d_Y_countOf_9 : decode c_Y_countOf 9 = .ok (.if_icmp .ge 22, 3) := by decide +kernel
theorem d_Y_countOf_12 : decode c_Y_countOf 12 = .ok (.aload_n 0, 1) := by decide +kernel
theorem d_Y_countOf_13 : decode c_Y_countOf 13 = .ok (.getfield 37, 3) := by decide +kernel
theorem d_Y_countOf_16 : decode c_Y_countOf 16 = .ok (.iload_n 3, 1) := by decide +kernel
theorem d_Y_countOf_17 : decode c_Y_countOf 17 = .ok (.baload, 1) := by decide +kernel
theorem d_Y_countOf_18 : decode c_Y_countOf 18 = .ok (.iload_n 1, 1) := by decide +kernel
theorem d_Y_countOf_19 : decode c_Y_countOf 19 = .ok (.if_icmp .ne 6, 3) := by decide +kernel
theorem d_Y_countOf_22 : decode c_Y_countOf 22 = .ok (.iinc 2 1, 3) := by decide +kernel
theorem d_Y_countOf_25 : decode c_Y_countOf 25 = .ok (.iinc 3 1, 3) := by decide +kernel
theorem d_Y_countOf_28 : decode c_Y_countOf 28 = .ok (.goto (-24), 3) := by decide +kernel
theorem d_Y_countOf_31 : decode c_Y_countOf 31 = .ok (.iload_n 2, 1) := by decide +kernel
theorem d_Y_countOf_32 : decode c_Y_countOf 32 = .ok (.ireturn, 1) := by decide +kernel
theorem d_Y_nthOf_0 : decode c_Y_nthOf 0 = .ok (.iload_n 2, 1) := by decide +kernel
theorem d_Y_nthOf_1 : decode c_Y_nthOf 1 = .ok (.istore_n 3, 1) := by decide +kernel
theorem d_Y_nthOf_2 : decode c_Y_nthOf 2 = .ok (.iconst 0, 1) := by decide +kernel
theorem d_Y_nthOf_3 : decode c_Y_nthOf 3 = .ok (.istore 4, 2) := by decide +kernel
theorem d_Y_nthOf_5 : decode c_Y_nthOf 5 = .ok (.iload 4, 2) := by decide +kernel
theorem d_Y_nthOf_7 : decode c_Y_nthOf 7 = .ok (.aload_n 0, 1) := by decide +kernel
theorem d_Y_nthOf_8 : decode c_Y_nthOf 8 = .ok (.getfield 51, 3) := by decide +kernel
theorem d_Y_nthOf_11 : decode c_Y_nthOf 11 = .ok (.if_icmp .ge 30, 3) := by decide +kernel
theorem d_Y_nthOf_14 : decode c_Y_nthOf 14 = .ok (.aload_n 0, 1) := by decide +kernel
theorem d_Y_nthOf_15 : decode c_Y_nthOf 15 = .ok (.getfield 37, 3) := by decide +kernel
theorem d_Y_nthOf_18 : decode c_Y_nthOf 18 = .ok (.iload 4, 2) := by decide +kernel
theorem d_Y_nthOf_20 : decode c_Y_nthOf 20 = .ok (.baload, 1) := by decide +kernel
theorem d_Y_nthOf_21 : decode c_Y_nthOf 21 = .ok (.iload_n 1, 1) := by decide +kernel
theorem d_Y_nthOf_22 : decode c_Y_nthOf 22 = .ok (.if_icmp .ne 13, 3) := by decide +kernel
theorem d_Y_nthOf_25 : decode c_Y_nthOf 25 = .ok (.iload_n 3, 1) := by decide +kernel
theorem d_Y_nthOf_26 : decode c_Y_nthOf 26 = .ok (.ifCond .ne 6, 3) := by decide +kernel
theorem d_Y_nthOf_29 : decode c_Y_nthOf 29 = .ok (.iload 4, 2) := by decide +kernel
theorem d_Y_nthOf_31 : decode c_Y_nthOf 31 = .ok (.ireturn, 1) := by decide +kernel
theorem d_Y_nthOf_32 : decode c_Y_nthOf 32 = .ok (.iinc 3 (-1), 3) := by decide +kernel
theorem d_Y_nthOf_35 : decode c_Y_nthOf 35 = .ok (.iinc 4 1, 3) := by decide +kernel
theorem d_Y_nthOf_38 : decode c_Y_nthOf 38 = .ok (.goto (-33), 3) := by decide +kernel
theorem d_Y_nthOf_41 : decode c_Y_nthOf 41 = .ok (.iconst (-1), 1) := by decide +kernel
theorem d_Y_nthOf_42 : decode c_Y_nthOf 42 = .ok (.ireturn, 1) := by decide +kernel
