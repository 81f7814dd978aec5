theorem d_M_init_0 : decode c_M_init 0 = .ok (.aload_n 0, 1) := by decide +kernel
theorem d_M_init_1 : decode c_M_init 1 = .ok (.invokespecial 1, 3) := by decide +kernel
theorem d_M_init_4 : decode c_M_init 4 = .ok (.aload_n 0, 1) := by decide +kernel
theorem d_M_init_5 : decode c_M_init 5 = .ok (.iconst 4, 1) := by decide +kernel
theorem d_M_init_6 : decode c_M_init 6 = .ok (.newarray .int, 2) := by decide +kernel
theorem d_M_init_8 : decode c_M_init 8 = .ok (.putfield 7, 3) := by decide +kernel
theorem d_M_init_11 : decode c_M_init 11 = .ok (.aload_n 0, 1) := by decide +kernel
theorem d_M_init_12 : decode c_M_init 12 = .ok (.bipush 48, 2) := by decide +kernel
theorem d_M_init_14 : decode c_M_init 14 = .ok (.newarray .long, 2) := by decide +kernel
theorem d_M_init_16 : decode c_M_init 16 = .ok (.putfield 13, 3) := by decide +kernel
theorem d_M_init_19 : decode c_M_init 19 = .ok (.aload_n 0, 1) := by decide +kernel
theorem d_M_init_20 : decode c_M_init 20 = .ok (.bipush 48, 2) := by decide +kernel
theorem d_M_init_22 : decode c_M_init 22 = .ok (.newarray .long, 2) := by decide +kernel
theorem d_M_init_24 : decode c_M_init 24 = .ok (.putfield 17, 3) := by decide +kernel
theorem d_M_init_27 : decode c_M_init 27 = .ok (.aload_n 0, 1) := by decide +kernel
theorem d_M_init_28 : decode c_M_init 28 = .ok (.iconst 4, 1) := by decide +kernel
theorem d_M_init_29 : decode c_M_init 29 = .ok (.newarray .int, 2) := by decide +kernel
theorem d_M_init_31 : decode c_M_init 31 = .ok (.putfield 20, 3) := by decide +kernel
theorem d_M_init_34 : decode c_M_init 34 = .ok (.aload_n 0, 1) := by decide +kernel
theorem d_M_init_35 : decode c_M_init 35 = .ok (.iconst 4, 1) := by decide +kernel
theorem d_M_init_36 : decode c_M_init 36 = .ok (.newarray .int, 2) := by decide +kernel
theorem d_M_init_38 : decode c_M_init 38 = .ok (.putfield 23, 3) := by decide +kernel
theorem d_M_init_41 : decode c_M_init 41 = .ok (.aload_n 0, 1) := by decide +kernel
theorem d_M_init_42 : decode c_M_init 42 = .ok (.bipush 120, 2) := by decide +kernel
theorem d_M_init_44 : decode c_M_init 44 = .ok (.newarray .long, 2) := by decide +kernel
theorem d_M_init_46 : decode c_M_init 46 = .ok (.putfield 26, 3) := by decide +kernel
theorem d_M_init_49 : decode c_M_init 49 = .ok (.aload_n 0, 1) := by decide +kernel
theorem d_M_init_50 : decode c_M_init 50 = .ok (.iconst 4, 1) := by decide +kernel
theorem d_M_init_51 : decode c_M_init 51 = .ok (.newarray .long, 2) := by decide +kernel
theorem d_M_init_53 : decode c_M_init 53 = .ok (.putfield 29, 3) := by decide +kernel
theorem d_M_init_56 : decode c_M_init 56 = .ok (.aload_n 0, 1) := by decide +kernel
theorem d_M_init_57 : decode c_M_init 57 = .ok (.sipush 1200, 3) := by decide +kernel
theorem d_M_init_60 : decode c_M_init 60 = .ok (.newarray .long, 2) := by decide +kernel
theorem d_M_init_62 : decode c_M_init 62 = .ok (.putfield 32, 3) := by decide +kernel
theorem d_M_init_65 : decode c_M_init 65 = .ok (.aload_n 0, 1) := by decide +kernel
theorem d_M_init_66 : decode c_M_init 66 = .ok (.sipush 200, 3) := by decide +kernel
theorem d_M_init_69 : decode c_M_init 69 = .ok (.newarray .boolean, 2) := by decide +kernel
theorem d_M_init_71 : decode c_M_init 71 = .ok (.putfield 35, 3) := by decide +kernel
theorem d_M_init_74 : decode c_M_init 74 = .ok (.aload_n 0, 1) := by decide +kernel
theorem d_M_init_75 : decode c_M_init 75 = .ok (.iconst 4, 1) := by decide +kernel
theorem d_M_init_76 : decode c_M_init 76 = .ok (.newarray .long, 2) := by decide +kernel
theorem d_M_init_78 : decode c_M_init 78 = .ok (.putfield 39, 3) := by decide +kernel
theorem d_M_init_81 : decode c_M_init 81 = .ok (.aload_n 0, 1) := by decide +kernel
theorem d_M_init_82 : decode c_M_init 82 = .ok (.iconst 4, 1) := by decide +kernel
theorem d_M_init_83 : decode c_M_init 83 = .ok (.newarray .long, 2) := by decide +kernel
theorem d_M_init_85 : decode c_M_init 85 = .ok (.putfield 42, 3) := by decide +kernel
theorem d_M_init_88 : decode c_M_init 88 = .ok (.aload_n 0, 1) := by decide +kernel
theorem d_M_init_89 : decode c_M_init 89 = .ok (.iconst 4, 1) := by decide +kernel
theorem d_M_init_90 : decode c_M_init 90 = .ok (.newarray .long, 2) := by decide +kernel
theorem d_M_init_92 : decode c_M_init 92 = .ok (.putfield 45, 3) := by decide +kernel
theorem d_M_init_95 : decode c_M_init 95 = .ok (.aload_n 0, 1) := by decide +kernel
theorem d_M_init_96 : decode c_M_init 96 = .ok (.iconst 4, 1) := by decide +kernel
theorem d_M_init_97 : decode c_M_init 97 = .ok (.newarray .long, 2) := by decide +kernel
theorem d_M_init_99 : decode c_M_init 99 = .ok (.putfield 48, 3) := by decide +kernel
theorem d_M_init_102 : decode c_M_init 102 = .ok (.aload_n 0, 1) := by decide +kernel
theorem d_M_init_103 : decode c_M_init 103 = .ok (.bipush 8, 2) := by decide +kernel
theorem d_M_init_105 : decode c_M_init 105 = .ok (.newarray .int, 2) := by decide +kernel
theorem d_M_init_107 : decode c_M_init 107 = .ok (.putfield 51, 3) := by decide +kernel
theorem d_M_init_110 : decode c_M_init 110 = .ok (.aload_n 0, 1) := by decide +kernel
theorem d_M_init_111 : decode c_M_init 111 = .ok (.bipush 8, 2) := by decide +kernel
theorem d_M_init_113 : decode c_M_init 113 = .ok (.newarray .int, 2) := by decide +kernel
theorem d_M_init_115 : decode c_M_init 115 = .ok (.putfield 54, 3) := by decide +kernel
theorem d_M_init_118 : decode c_M_init 118 = .ok (.aload_n 0, 1) := by decide +kernel
theorem d_M_init_119 : decode c_M_init 119 = .ok (.bipush 8, 2) := by decide +kernel
theorem d_M_init_121 : decode c_M_init 121 = .ok (.newarray .int, 2) := by decide +kernel
theorem d_M_init_123 : decode c_M_init 123 = .ok (.putfield 57, 3) := by decide +kernel
theorem d_M_init_126 : decode c_M_init 126 = .ok (.aload_n 0, 1) := by decide +kernel
theorem d_M_init_127 : decode c_M_init 127 = .ok (.lload_n 1, 1) := by decide +kernel
theorem d_M_init_128 : decode c_M_init 128 = .ok (.lconst 1, 1) := by decide +kernel
theorem d_M_init_129 : decode c_M_init 129 = .ok (.lcmp, 1) := by decide +kernel
theorem d_M_init_130 : decode c_M_init 130 = .ok (.ifCond .ge 7, 3) := by decide +kernel
theorem d_M_init_133 : decode c_M_init 133 = .ok (.lconst 1, 1) := by decide +kernel
theorem d_M_init_134 : decode c_M_init 134 = .ok (.goto 18, 3) := by decide +kernel
theorem d_M_init_137 : decode c_M_init 137 = .ok (.lload_n 1, 1) := by decide +kernel
theorem d_M_init_138 : decode c_M_init 138 = .ok (.ldc2_w 60, 3) := by decide +kernel
theorem d_M_init_141 : decode c_M_init 141 = .ok (.lcmp, 1) := by decide +kernel
theorem d_M_init_142 : decode c_M_init 142 = .ok (.ifCond .le 9, 3) := by decide +kernel
theorem d_M_init_145 : decode c_M_init 145 = .ok (.ldc2_w 60, 3) := by decide +kernel
theorem d_M_init_148 : decode c_M_init 148 = .ok (.goto 4, 3) := by decide +kernel
theorem d_M_init_151 : decode c_M_init 151 = .ok (.lload_n 1, 1) := by decide +kernel
theorem d_M_init_152 : decode c_M_init 152 = .ok (.putfield 62, 3) := by decide +kernel
theorem d_M_init_155 : decode c_M_init 155 = .ok (.aload_n 0, 1) := by decide +kernel
theorem d_M_init_156 : decode c_M_init 156 = .ok (.lload_n 3, 1) := by decide +kernel
theorem d_M_init_157 : decode c_M_init 157 = .ok (.lconst 1, 1) := by decide +kernel
theorem d_M_init_158 : decode c_M_init 158 = .ok (.lcmp, 1) := by decide +kernel
theorem d_M_init_159 : decode c_M_init 159 = .ok (.ifCond .ge 7, 3) := by decide +kernel
theorem d_M_init_162 : decode c_M_init 162 = .ok (.lconst 1, 1) := by decide +kernel
theorem d_M_init_163 : decode c_M_init 163 = .ok (.goto 18, 3) := by decide +kernel
theorem d_M_init_166 : decode c_M_init 166 = .ok (.lload_n 3, 1) := by decide +kernel
theorem d_M_init_167 : decode c_M_init 167 = .ok (.ldc2_w 60, 3) := by decide +kernel
theorem d_M_init_170 : decode c_M_init 170 = .ok (.lcmp, 1) := by decide +kernel
theorem d_M_init_171 : decode c_M_init 171 = .ok (.ifCond .le 9, 3) := by decide +kernel
theorem d_M_init_174 : decode c_M_init 174 = .ok (.ldc2_w 60, 3) := by decide +kernel
theorem d_M_init_177 : decode c_M_init 177 = .ok (.goto 4, 3) := by decide +kernel
theorem d_M_init_180 : decode c_M_init 180 = .ok (.lload_n 3, 1) := by decide +kernel
theorem d_M_init_181 : decode c_M_init 181 = .ok (.putfield 66, 3) := by decide +kernel
theorem d_M_init_184 : decode c_M_init 184 = .ok (.iconst 0, 1) := by decide +kernel
theorem d_M_init_185 : decode c_M_init 185 = .ok (.istore 5, 2) := by decide +kernel
theorem d_M_init_187 : decode c_M_init 187 = .ok (.iload 5, 2) := by decide +kernel
theorem d_M_init_189 : decode c_M_init 189 = .ok (.iconst 4, 1) := by decide +kernel
theorem d_M_init_190 : decode c_M_init 190 = .ok (.if_icmp .ge 19, 3) := by decide +kernel
theorem d_M_init_193 : decode c_M_init 193 = .ok (.aload_n 0, 1) := by decide +kernel
theorem d_M_init_194 : decode c_M_init 194 = .ok (.getfield 20, 3) := by decide +kernel
theorem d_M_init_197 : decode c_M_init 197 = .ok (.iload 5, 2) := by decide +kernel
theorem d_M_init_199 : decode c_M_init 199 = .ok (.sipush 200, 3) := by decide +kernel
theorem d_M_init_202 : decode c_M_init 202 = .ok (.iastore, 1) := by decide +kernel
theorem d_M_init_203 : decode c_M_init 203 = .ok (.iinc 5 1, 3) := by decide +kernel
theorem d_M_init_206 : decode c_M_init 206 = .ok (.goto (-19), 3) := by decide +kernel
theorem d_M_init_209 : decode c_M_init 209 = .ok (.return_, 1) := by decide +kernel
theorem d_M_thrown_0 : decode c_M_thrown 0 = .ok (.aload_n 0, 1) := by decide +kernel
theorem d_M_thrown_1 : decode c_M_thrown 1 = .ok (.getfield 69, 3) := by decide +kernel
theorem d_M_thrown_4 : decode c_M_thrown 4 = .ok (.ireturn, 1) := by decide +kernel
theorem d_M_isBoard_0 : decode c_M_isBoard 0 = .ok (.iload_n 1, 1) := by decide +kernel
theorem d_M_isBoard_1 : decode c_M_isBoard 1 = .ok (.ifCond .lt 15, 3) := by decide +kernel
theorem d_M_isBoard_4 : decode c_M_isBoard 4 = .ok (.iload_n 1, 1) := by decide +kernel
theorem d_M_isBoard_5 : decode c_M_isBoard 5 = .ok (.aload_n 0, 1) := by decide +kernel
theorem d_M_isBoard_6 : decode c_M_isBoard 6 = .ok (.getfield 73, 3) := by decide +kernel
theorem d_M_isBoard_9 : decode c_M_isBoard 9 = .ok (.if_icmp .ge 7, 3) := by decide +kernel
theorem d_M_isBoard_12 : decode c_M_isBoard 12 = .ok (.iconst 1, 1) := by decide +kernel
theorem d_M_isBoard_13 : decode c_M_isBoard 13 = .ok (.goto 4, 3) := by decide +kernel
theorem d_M_isBoard_16 : decode c_M_isBoard 16 = .ok (.iconst 0, 1) := by decide +kernel
theorem d_M_isBoard_17 : decode c_M_isBoard 17 = .ok (.ireturn, 1) := by decide +kernel
theorem d_M_isSize_0 : decode c_M_isSize 0 = .ok (.lload_n 0, 1) := by decide +kernel
theorem d_M_isSize_1 : decode c_M_isSize 1 = .ok (.lconst 0, 1) := by decide +kernel
theorem d_M_isSize_2 : decode c_M_isSize 2 = .ok (.lcmp, 1) := by decide +kernel
theorem d_M_isSize_3 : decode c_M_isSize 3 = .ok (.ifCond .lt 15, 3) := by decide +kernel
theorem d_M_isSize_6 : decode c_M_isSize 6 = .ok (.lload_n 0, 1) := by decide +kernel
theorem d_M_isSize_7 : decode c_M_isSize 7 = .ok (.ldc2_w 60, 3) := by decide +kernel
theorem d_M_isSize_10 : decode c_M_isSize 10 = .ok (.lcmp, 1) := by decide +kernel
theorem d_M_isSize_11 : decode c_M_isSize 11 = .ok (.ifCond .gt 7, 3) := by decide +kernel
theorem d_M_isSize_14 : decode c_M_isSize 14 = .ok (.iconst 1, 1) := by decide +kernel
theorem d_M_isSize_15 : decode c_M_isSize 15 = .ok (.goto 4, 3) := by decide +kernel
theorem d_M_isSize_18 : decode c_M_isSize 18 = .ok (.iconst 0, 1) := by decide +kernel
theorem d_M_isSize_19 : decode c_M_isSize 19 = .ok (.ireturn, 1) := by decide +kernel
theorem d_M_board_0 : decode c_M_board 0 = .ok (.aload_n 0, 1) := by decide +kernel
theorem d_M_board_1 : decode c_M_board 1 = .ok (.iconst 0, 1) := by decide +kernel
theorem d_M_board_2 : decode c_M_board 2 = .ok (.putfield 69, 3) := by decide +kernel
theorem d_M_board_5 : decode c_M_board 5 = .ok (.aload_n 0, 1) := by decide +kernel
theorem d_M_board_6 : decode c_M_board 6 = .ok (.getfield 73, 3) := by decide +kernel
theorem d_M_board_9 : decode c_M_board 9 = .ok (.iconst 4, 1) := by decide +kernel
theorem d_M_board_10 : decode c_M_board 10 = .ok (.if_icmp .ne 5, 3) := by decide +kernel
theorem d_M_board_13 : decode c_M_board 13 = .ok (.iconst (-1), 1) := by decide +kernel
theorem d_M_board_14 : decode c_M_board 14 = .ok (.ireturn, 1) := by decide +kernel
theorem d_M_board_15 : decode c_M_board 15 = .ok (.aload_n 0, 1) := by decide +kernel
theorem d_M_board_16 : decode c_M_board 16 = .ok (.dup, 1) := by decide +kernel
theorem d_M_board_17 : decode c_M_board 17 = .ok (.getfield 73, 3) := by decide +kernel
theorem d_M_board_20 : decode c_M_board 20 = .ok (.iconst 1, 1) := by decide +kernel
theorem d_M_board_21 : decode c_M_board 21 = .ok (.iadd, 1) := by decide +kernel
theorem d_M_board_22 : decode c_M_board 22 = .ok (.putfield 73, 3) := by decide +kernel
theorem d_M_board_25 : decode c_M_board 25 = .ok (.aload_n 0, 1) := by decide +kernel
theorem d_M_board_26 : decode c_M_board 26 = .ok (.getfield 73, 3) := by decide +kernel
theorem d_M_board_29 : decode c_M_board 29 = .ok (.iconst 1, 1) := by decide +kernel
theorem d_M_board_30 : decode c_M_board 30 = .ok (.isub, 1) := by decide +kernel
theorem d_M_board_31 : decode c_M_board 31 = .ok (.ireturn, 1) := by decide +kernel
theorem d_M_corner_0 : decode c_M_corner 0 = .ok (.aload_n 0, 1) := by decide +kernel
theorem d_M_corner_1 : decode c_M_corner 1 = .ok (.aload_n 0, 1) := by decide +kernel
theorem d_M_corner_2 : decode c_M_corner 2 = .ok (.iload_n 1, 1) := by decide +kernel
theorem d_M_corner_3 : decode c_M_corner 3 = .ok (.invokevirtual 76, 3) := by decide +kernel
theorem d_M_corner_6 : decode c_M_corner 6 = .ok (.ifCond .ne 7, 3) := by decide +kernel
theorem d_M_corner_9 : decode c_M_corner 9 = .ok (.iconst 1, 1) := by decide +kernel
theorem d_M_corner_10 : decode c_M_corner 10 = .ok (.goto 23, 3) := by decide +kernel
theorem d_M_corner_13 : decode c_M_corner 13 = .ok (.lload_n 2, 1) := by decide +kernel
theorem d_M_corner_14 : decode c_M_corner 14 = .ok (.invokestatic 80, 3) := by decide +kernel
theorem d_M_corner_17 : decode c_M_corner 17 = .ok (.ifCond .eq 15, 3) := by decide +kernel
theorem d_M_corner_20 : decode c_M_corner 20 = .ok (.lload 4, 2) := by decide +kernel
theorem d_M_corner_22 : decode c_M_corner 22 = .ok (.invokestatic 80, 3) := by decide +kernel
theorem d_M_corner_25 : decode c_M_corner 25 = .ok (.ifCond .eq 7, 3) := by decide +kernel
theorem d_M_corner_28 : decode c_M_corner 28 = .ok (.iconst 0, 1) := by decide +kernel
theorem d_M_corner_29 : decode c_M_corner 29 = .ok (.goto 4, 3) := by decide +kernel
theorem d_M_corner_32 : decode c_M_corner 32 = .ok (.iconst 2, 1) := by decide +kernel
theorem d_M_corner_33 : decode c_M_corner 33 = .ok (.putfield 69, 3) := by decide +kernel
theorem d_M_corner_36 : decode c_M_corner 36 = .ok (.aload_n 0, 1) := by decide +kernel
theorem d_M_corner_37 : decode c_M_corner 37 = .ok (.getfield 69, 3) := by decide +kernel
theorem d_M_corner_40 : decode c_M_corner 40 = .ok (.ifCond .ne 14, 3) := by decide +kernel
theorem d_M_corner_43 : decode c_M_corner 43 = .ok (.aload_n 0, 1) := by decide +kernel
theorem d_M_corner_44 : decode c_M_corner 44 = .ok (.getfield 7, 3) := by decide +kernel
theorem d_M_corner_47 : decode c_M_corner 47 = .ok (.iload_n 1, 1) := by decide +kernel
theorem d_M_corner_48 : decode c_M_corner 48 = .ok (.iaload, 1) := by decide +kernel
theorem d_M_corner_49 : decode c_M_corner 49 = .ok (.bipush 12, 2) := by decide +kernel
theorem d_M_corner_51 : decode c_M_corner 51 = .ok (.if_icmp .ne 5, 3) := by decide +kernel
theorem d_M_corner_54 : decode c_M_corner 54 = .ok (.iconst 0, 1) := by decide +kernel
theorem d_M_corner_55 : decode c_M_corner 55 = .ok (.ireturn, 1) := by decide +kernel
theorem d_M_corner_56 : decode c_M_corner 56 = .ok (.aload_n 0, 1) := by decide +kernel
theorem d_M_corner_57 : decode c_M_corner 57 = .ok (.getfield 13, 3) := by decide +kernel
theorem d_M_corner_60 : decode c_M_corner 60 = .ok (.bipush 12, 2) := by decide +kernel
theorem d_M_corner_62 : decode c_M_corner 62 = .ok (.iload_n 1, 1) := by decide +kernel
theorem d_M_corner_63 : decode c_M_corner 63 = .ok (.imul, 1) := by decide +kernel
theorem d_M_corner_64 : decode c_M_corner 64 = .ok (.aload_n 0, 1) := by decide +kernel
theorem d_M_corner_65 : decode c_M_corner 65 = .ok (.getfield 7, 3) := by decide +kernel
theorem d_M_corner_68 : decode c_M_corner 68 = .ok (.iload_n 1, 1) := by decide +kernel
theorem d_M_corner_69 : decode c_M_corner 69 = .ok (.iaload, 1) := by decide +kernel
theorem d_M_corner_70 : decode c_M_corner 70 = .ok (.iadd, 1) := by decide +kernel
theorem d_M_corner_71 : decode c_M_corner 71 = .ok (.lload_n 2, 1) := by decide +kernel
theorem d_M_corner_72 : decode c_M_corner 72 = .ok (.lastore, 1) := by decide +kernel
theorem d_M_corner_73 : decode c_M_corner 73 = .ok (.aload_n 0, 1) := by decide +kernel
theorem d_M_corner_74 : decode c_M_corner 74 = .ok (.getfield 17, 3) := by decide +kernel
theorem d_M_corner_77 : decode c_M_corner 77 = .ok (.bipush 12, 2) := by decide +kernel
theorem d_M_corner_79 : decode c_M_corner 79 = .ok (.iload_n 1, 1) := by decide +kernel
theorem d_M_corner_80 : decode c_M_corner 80 = .ok (.imul, 1) := by decide +kernel
theorem d_M_corner_81 : decode c_M_corner 81 = .ok (.aload_n 0, 1) := by decide +kernel
theorem d_M_corner_82 : decode c_M_corner 82 = .ok (.getfield 7, 3) := by decide +kernel
theorem d_M_corner_85 : decode c_M_corner 85 = .ok (.iload_n 1, 1) := by decide +kernel
theorem d_M_corner_86 : decode c_M_corner 86 = .ok (.iaload, 1) := by decide +kernel
theorem d_M_corner_87 : decode c_M_corner 87 = .ok (.iadd, 1) := by decide +kernel
theorem d_M_corner_88 : decode c_M_corner 88 = .ok (.lload 4, 2) := by decide +kernel
theorem d_M_corner_90 : decode c_M_corner 90 = .ok (.lastore, 1) := by decide +kernel
theorem d_M_corner_91 : decode c_M_corner 91 = .ok (.aload_n 0, 1) := by decide +kernel
theorem d_M_corner_92 : decode c_M_corner 92 = .ok (.getfield 7, 3) := by decide +kernel
theorem d_M_corner_95 : decode c_M_corner 95 = .ok (.iload_n 1, 1) := by decide +kernel
theorem d_M_corner_96 : decode c_M_corner 96 = .ok (.dup2, 1) := by decide +kernel
theorem d_M_corner_97 : decode c_M_corner 97 = .ok (.iaload, 1) := by decide +kernel
theorem d_M_corner_98 : decode c_M_corner 98 = .ok (.iconst 1, 1) := by decide +kernel
theorem d_M_corner_99 : decode c_M_corner 99 = .ok (.iadd, 1) := by decide +kernel
theorem d_M_corner_100 : decode c_M_corner 100 = .ok (.iastore, 1) := by decide +kernel
theorem d_M_corner_101 : decode c_M_corner 101 = .ok (.iconst 1, 1) := by decide +kernel
theorem d_M_corner_102 : decode c_M_corner 102 = .ok (.ireturn, 1) := by decide +kernel
theorem d_M_part_0 : decode c_M_part 0 = .ok (.aload_n 0, 1) := by decide +kernel
theorem d_M_part_1 : decode c_M_part 1 = .ok (.aload_n 0, 1) := by decide +kernel
theorem d_M_part_2 : decode c_M_part 2 = .ok (.iload_n 1, 1) := by decide +kernel
theorem d_M_part_3 : decode c_M_part 3 = .ok (.invokevirtual 76, 3) := by decide +kernel
theorem d_M_part_6 : decode c_M_part 6 = .ok (.ifCond .ne 7, 3) := by decide +kernel
theorem d_M_part_9 : decode c_M_part 9 = .ok (.iconst 1, 1) := by decide +kernel
theorem d_M_part_10 : decode c_M_part 10 = .ok (.goto 39, 3) := by decide +kernel
theorem d_M_part_13 : decode c_M_part 13 = .ok (.lload_n 2, 1) := by decide +kernel
theorem d_M_part_14 : decode c_M_part 14 = .ok (.invokestatic 80, 3) := by decide +kernel
theorem d_M_part_17 : decode c_M_part 17 = .ok (.ifCond .eq 31, 3) := by decide +kernel
theorem d_M_part_20 : decode c_M_part 20 = .ok (.lload 4, 2) := by decide +kernel
theorem d_M_part_22 : decode c_M_part 22 = .ok (.invokestatic 80, 3) := by decide +kernel
theorem d_M_part_25 : decode c_M_part 25 = .ok (.ifCond .eq 23, 3) := by decide +kernel
theorem d_M_part_28 : decode c_M_part 28 = .ok (.lload 6, 2) := by decide +kernel
theorem d_M_part_30 : decode c_M_part 30 = .ok (.lconst 1, 1) := by decide +kernel
theorem d_M_part_31 : decode c_M_part 31 = .ok (.lcmp, 1) := by decide +kernel
theorem d_M_part_32 : decode c_M_part 32 = .ok (.ifCond .lt 16, 3) := by decide +kernel
theorem d_M_part_35 : decode c_M_part 35 = .ok (.lload 6, 2) := by decide +kernel
theorem d_M_part_37 : decode c_M_part 37 = .ok (.ldc2_w 60, 3) := by decide +kernel
theorem d_M_part_40 : decode c_M_part 40 = .ok (.lcmp, 1) := by decide +kernel
theorem d_M_part_41 : decode c_M_part 41 = .ok (.ifCond .gt 7, 3) := by decide +kernel
theorem d_M_part_44 : decode c_M_part 44 = .ok (.iconst 0, 1) := by decide +kernel
theorem d_M_part_45 : decode c_M_part 45 = .ok (.goto 4, 3) := by decide +kernel
theorem d_M_part_48 : decode c_M_part 48 = .ok (.iconst 2, 1) := by decide +kernel
theorem d_M_part_49 : decode c_M_part 49 = .ok (.putfield 69, 3) := by decide +kernel
theorem d_M_part_52 : decode c_M_part 52 = .ok (.aload_n 0, 1) := by decide +kernel
theorem d_M_part_53 : decode c_M_part 53 = .ok (.getfield 69, 3) := by decide +kernel
theorem d_M_part_56 : decode c_M_part 56 = .ok (.ifCond .ne 14, 3) := by decide +kernel
theorem d_M_part_59 : decode c_M_part 59 = .ok (.aload_n 0, 1) := by decide +kernel
theorem d_M_part_60 : decode c_M_part 60 = .ok (.getfield 23, 3) := by decide +kernel
theorem d_M_part_63 : decode c_M_part 63 = .ok (.iload_n 1, 1) := by decide +kernel
theorem d_M_part_64 : decode c_M_part 64 = .ok (.iaload, 1) := by decide +kernel
theorem d_M_part_65 : decode c_M_part 65 = .ok (.bipush 10, 2) := by decide +kernel
theorem d_M_part_67 : decode c_M_part 67 = .ok (.if_icmp .ne 5, 3) := by decide +kernel
theorem d_M_part_70 : decode c_M_part 70 = .ok (.iconst 0, 1) := by decide +kernel
theorem d_M_part_71 : decode c_M_part 71 = .ok (.ireturn, 1) := by decide +kernel
theorem d_M_part_72 : decode c_M_part 72 = .ok (.bipush 30, 2) := by decide +kernel
theorem d_M_part_74 : decode c_M_part 74 = .ok (.iload_n 1, 1) := by decide +kernel
theorem d_M_part_75 : decode c_M_part 75 = .ok (.imul, 1) := by decide +kernel
theorem d_M_part_76 : decode c_M_part 76 = .ok (.iconst 3, 1) := by decide +kernel
theorem d_M_part_77 : decode c_M_part 77 = .ok (.aload_n 0, 1) := by decide +kernel
theorem d_M_part_78 : decode c_M_part 78 = .ok (.getfield 23, 3) := by decide +kernel
theorem d_M_part_81 : decode c_M_part 81 = .ok (.iload_n 1, 1) := by decide +kernel
theorem d_M_part_82 : decode c_M_part 82 = .ok (.iaload, 1) := by decide +kernel
theorem d_M_part_83 : decode c_M_part 83 = .ok (.imul, 1) := by decide +kernel
theorem d_M_part_84 : decode c_M_part 84 = .ok (.iadd, 1) := by decide +kernel
theorem d_M_part_85 : decode c_M_part 85 = .ok (.istore 8, 2) := by decide +kernel
theorem d_M_part_87 : decode c_M_part 87 = .ok (.aload_n 0, 1) := by decide +kernel
theorem d_M_part_88 : decode c_M_part 88 = .ok (.getfield 26, 3) := by decide +kernel
theorem d_M_part_91 : decode c_M_part 91 = .ok (.iload 8, 2) := by decide +kernel
theorem d_M_part_93 : decode c_M_part 93 = .ok (.lload_n 2, 1) := by decide +kernel
theorem d_M_part_94 : decode c_M_part 94 = .ok (.lastore, 1) := by decide +kernel
theorem d_M_part_95 : decode c_M_part 95 = .ok (.aload_n 0, 1) := by decide +kernel
theorem d_M_part_96 : decode c_M_part 96 = .ok (.getfield 26, 3) := by decide +kernel
theorem d_M_part_99 : decode c_M_part 99 = .ok (.iload 8, 2) := by decide +kernel
theorem d_M_part_101 : decode c_M_part 101 = .ok (.iconst 1, 1) := by decide +kernel
theorem d_M_part_102 : decode c_M_part 102 = .ok (.iadd, 1) := by decide +kernel
theorem d_M_part_103 : decode c_M_part 103 = .ok (.lload 4, 2) := by decide +kernel
theorem d_M_part_105 : decode c_M_part 105 = .ok (.lastore, 1) := by decide +kernel
theorem d_M_part_106 : decode c_M_part 106 = .ok (.aload_n 0, 1) := by decide +kernel
theorem d_M_part_107 : decode c_M_part 107 = .ok (.getfield 26, 3) := by decide +kernel
theorem d_M_part_110 : decode c_M_part 110 = .ok (.iload 8, 2) := by decide +kernel
theorem d_M_part_112 : decode c_M_part 112 = .ok (.iconst 2, 1) := by decide +kernel
theorem d_M_part_113 : decode c_M_part 113 = .ok (.iadd, 1) := by decide +kernel
theorem d_M_part_114 : decode c_M_part 114 = .ok (.lload 6, 2) := by decide +kernel
theorem d_M_part_116 : decode c_M_part 116 = .ok (.lastore, 1) := by decide +kernel
theorem d_M_part_117 : decode c_M_part 117 = .ok (.aload_n 0, 1) := by decide +kernel
theorem d_M_part_118 : decode c_M_part 118 = .ok (.getfield 23, 3) := by decide +kernel
theorem d_M_part_121 : decode c_M_part 121 = .ok (.iload_n 1, 1) := by decide +kernel
theorem d_M_part_122 : decode c_M_part 122 = .ok (.dup2, 1) := by decide +kernel
theorem d_M_part_123 : decode c_M_part 123 = .ok (.iaload, 1) := by decide +kernel
theorem d_M_part_124 : decode c_M_part 124 = .ok (.iconst 1, 1) := by decide +kernel
theorem d_M_part_125 : decode c_M_part 125 = .ok (.iadd, 1) := by decide +kernel
theorem d_M_part_126 : decode c_M_part 126 = .ok (.iastore, 1) := by decide +kernel
theorem d_M_part_127 : decode c_M_part 127 = .ok (.iconst 1, 1) := by decide +kernel
theorem d_M_part_128 : decode c_M_part 128 = .ok (.ireturn, 1) := by decide +kernel
theorem d_M_gap_0 : decode c_M_gap 0 = .ok (.aload_n 0, 1) := by decide +kernel
theorem d_M_gap_1 : decode c_M_gap 1 = .ok (.lload_n 1, 1) := by decide +kernel
theorem d_M_gap_2 : decode c_M_gap 2 = .ok (.invokestatic 80, 3) := by decide +kernel
theorem d_M_gap_5 : decode c_M_gap 5 = .ok (.ifCond .eq 7, 3) := by decide +kernel
theorem d_M_gap_8 : decode c_M_gap 8 = .ok (.iconst 0, 1) := by decide +kernel
theorem d_M_gap_9 : decode c_M_gap 9 = .ok (.goto 4, 3) := by decide +kernel
theorem d_M_gap_12 : decode c_M_gap 12 = .ok (.iconst 1, 1) := by decide +kernel
theorem d_M_gap_13 : decode c_M_gap 13 = .ok (.putfield 69, 3) := by decide +kernel
theorem d_M_gap_16 : decode c_M_gap 16 = .ok (.aload_n 0, 1) := by decide +kernel
theorem d_M_gap_17 : decode c_M_gap 17 = .ok (.getfield 69, 3) := by decide +kernel
theorem d_M_gap_20 : decode c_M_gap 20 = .ok (.ifCond .ne 12, 3) := by decide +kernel
theorem d_M_gap_23 : decode c_M_gap 23 = .ok (.aload_n 0, 1) := by decide +kernel
theorem d_M_gap_24 : decode c_M_gap 24 = .ok (.getfield 84, 3) := by decide +kernel
theorem d_M_gap_27 : decode c_M_gap 27 = .ok (.lload_n 1, 1) := by decide +kernel
theorem d_M_gap_28 : decode c_M_gap 28 = .ok (.lcmp, 1) := by decide +kernel
theorem d_M_gap_29 : decode c_M_gap 29 = .ok (.ifCond .ne 5, 3) := by decide +kernel
theorem d_M_gap_32 : decode c_M_gap 32 = .ok (.iconst 0, 1) := by decide +kernel
theorem d_M_gap_33 : decode c_M_gap 33 = .ok (.ireturn, 1) := by decide +kernel
theorem d_M_gap_34 : decode c_M_gap 34 = .ok (.aload_n 0, 1) := by decide +kernel
theorem d_M_gap_35 : decode c_M_gap 35 = .ok (.lload_n 1, 1) := by decide +kernel
theorem d_M_gap_36 : decode c_M_gap 36 = .ok (.putfield 84, 3) := by decide +kernel
theorem d_M_gap_39 : decode c_M_gap 39 = .ok (.iconst 1, 1) := by decide +kernel
theorem d_M_gap_40 : decode c_M_gap 40 = .ok (.ireturn, 1) := by decide +kernel
theorem d_M_radius_0 : decode c_M_radius 0 = .ok (.aload_n 0, 1) := by decide +kernel
theorem d_M_radius_1 : decode c_M_radius 1 = .ok (.lload_n 1, 1) := by decide +kernel
theorem d_M_radius_2 : decode c_M_radius 2 = .ok (.invokestatic 80, 3) := by decide +kernel
theorem d_M_radius_5 : decode c_M_radius 5 = .ok (.ifCond .eq 7, 3) := by decide +kernel
theorem d_M_radius_8 : decode c_M_radius 8 = .ok (.iconst 0, 1) := by decide +kernel
theorem d_M_radius_9 : decode c_M_radius 9 = .ok (.goto 4, 3) := by decide +kernel
theorem d_M_radius_12 : decode c_M_radius 12 = .ok (.iconst 1, 1) := by decide +kernel
theorem d_M_radius_13 : decode c_M_radius 13 = .ok (.putfield 69, 3) := by decide +kernel
theorem d_M_radius_16 : decode c_M_radius 16 = .ok (.aload_n 0, 1) := by decide +kernel
theorem d_M_radius_17 : decode c_M_radius 17 = .ok (.getfield 69, 3) := by decide +kernel
theorem d_M_radius_20 : decode c_M_radius 20 = .ok (.ifCond .ne 12, 3) := by decide +kernel
theorem d_M_radius_23 : decode c_M_radius 23 = .ok (.aload_n 0, 1) := by decide +kernel
theorem d_M_radius_24 : decode c_M_radius 24 = .ok (.getfield 87, 3) := by decide +kernel
theorem d_M_radius_27 : decode c_M_radius 27 = .ok (.lload_n 1, 1) := by decide +kernel
theorem d_M_radius_28 : decode c_M_radius 28 = .ok (.lcmp, 1) := by decide +kernel
theorem d_M_radius_29 : decode c_M_radius 29 = .ok (.ifCond .ne 5, 3) := by decide +kernel
theorem d_M_radius_32 : decode c_M_radius 32 = .ok (.iconst 0, 1) := by decide +kernel
theorem d_M_radius_33 : decode c_M_radius 33 = .ok (.ireturn, 1) := by decide +kernel
theorem d_M_radius_34 : decode c_M_radius 34 = .ok (.aload_n 0, 1) := by decide +kernel
theorem d_M_radius_35 : decode c_M_radius 35 = .ok (.lload_n 1, 1) := by decide +kernel
theorem d_M_radius_36 : decode c_M_radius 36 = .ok (.putfield 87, 3) := by decide +kernel
theorem d_M_radius_39 : decode c_M_radius 39 = .ok (.iconst 1, 1) := by decide +kernel
theorem d_M_radius_40 : decode c_M_radius 40 = .ok (.ireturn, 1) := by decide +kernel
theorem d_M_rail_0 : decode c_M_rail 0 = .ok (.aload_n 0, 1) := by decide +kernel
theorem d_M_rail_1 : decode c_M_rail 1 = .ok (.iload_n 1, 1) := by decide +kernel
theorem d_M_rail_2 : decode c_M_rail 2 = .ok (.ifCond .lt 8, 3) := by decide +kernel
theorem d_M_rail_5 : decode c_M_rail 5 = .ok (.iload_n 1, 1) := by decide +kernel
theorem d_M_rail_6 : decode c_M_rail 6 = .ok (.iconst 3, 1) := by decide +kernel
theorem d_M_rail_7 : decode c_M_rail 7 = .ok (.if_icmp .le 7, 3) := by decide +kernel
theorem d_M_rail_10 : decode c_M_rail 10 = .ok (.iconst 1, 1) := by decide +kernel
theorem d_M_rail_11 : decode c_M_rail 11 = .ok (.goto 15, 3) := by decide +kernel
theorem d_M_rail_14 : decode c_M_rail 14 = .ok (.lload_n 2, 1) := by decide +kernel
theorem d_M_rail_15 : decode c_M_rail 15 = .ok (.invokestatic 80, 3) := by decide +kernel
theorem d_M_rail_18 : decode c_M_rail 18 = .ok (.ifCond .eq 7, 3) := by decide +kernel
theorem d_M_rail_21 : decode c_M_rail 21 = .ok (.iconst 0, 1) := by decide +kernel
theorem d_M_rail_22 : decode c_M_rail 22 = .ok (.goto 4, 3) := by decide +kernel
theorem d_M_rail_25 : decode c_M_rail 25 = .ok (.iconst 2, 1) := by decide +kernel
theorem d_M_rail_26 : decode c_M_rail 26 = .ok (.putfield 69, 3) := by decide +kernel
theorem d_M_rail_29 : decode c_M_rail 29 = .ok (.aload_n 0, 1) := by decide +kernel
theorem d_M_rail_30 : decode c_M_rail 30 = .ok (.getfield 69, 3) := by decide +kernel
theorem d_M_rail_33 : decode c_M_rail 33 = .ok (.ifCond .ne 14, 3) := by decide +kernel
theorem d_M_rail_36 : decode c_M_rail 36 = .ok (.aload_n 0, 1) := by decide +kernel
theorem d_M_rail_37 : decode c_M_rail 37 = .ok (.getfield 29, 3) := by decide +kernel
theorem d_M_rail_40 : decode c_M_rail 40 = .ok (.iload_n 1, 1) := by decide +kernel
theorem d_M_rail_41 : decode c_M_rail 41 = .ok (.laload, 1) := by decide +kernel
theorem d_M_rail_42 : decode c_M_rail 42 = .ok (.lload_n 2, 1) := by decide +kernel
theorem d_M_rail_43 : decode c_M_rail 43 = .ok (.lcmp, 1) := by decide +kernel
theorem d_M_rail_44 : decode c_M_rail 44 = .ok (.ifCond .ne 5, 3) := by decide +kernel
theorem d_M_rail_47 : decode c_M_rail 47 = .ok (.iconst 0, 1) := by decide +kernel
theorem d_M_rail_48 : decode c_M_rail 48 = .ok (.ireturn, 1) := by decide +kernel
theorem d_M_rail_49 : decode c_M_rail 49 = .ok (.aload_n 0, 1) := by decide +kernel
theorem d_M_rail_50 : decode c_M_rail 50 = .ok (.getfield 29, 3) := by decide +kernel
theorem d_M_rail_53 : decode c_M_rail 53 = .ok (.iload_n 1, 1) := by decide +kernel
theorem d_M_rail_54 : decode c_M_rail 54 = .ok (.lload_n 2, 1) := by decide +kernel
theorem d_M_rail_55 : decode c_M_rail 55 = .ok (.lastore, 1) := by decide +kernel
theorem d_M_rail_56 : decode c_M_rail 56 = .ok (.iconst 1, 1) := by decide +kernel
theorem d_M_rail_57 : decode c_M_rail 57 = .ok (.ireturn, 1) := by decide +kernel
theorem d_M_wants_0 : decode c_M_wants 0 = .ok (.aload_n 0, 1) := by decide +kernel
theorem d_M_wants_1 : decode c_M_wants 1 = .ok (.aload_n 0, 1) := by decide +kernel
theorem d_M_wants_2 : decode c_M_wants 2 = .ok (.iload_n 1, 1) := by decide +kernel
theorem d_M_wants_3 : decode c_M_wants 3 = .ok (.invokevirtual 76, 3) := by decide +kernel
theorem d_M_wants_6 : decode c_M_wants 6 = .ok (.ifCond .ne 7, 3) := by decide +kernel
theorem d_M_wants_9 : decode c_M_wants 9 = .ok (.iconst 1, 1) := by decide +kernel
theorem d_M_wants_10 : decode c_M_wants 10 = .ok (.goto 19, 3) := by decide +kernel
theorem d_M_wants_13 : decode c_M_wants 13 = .ok (.iload_n 2, 1) := by decide +kernel
theorem d_M_wants_14 : decode c_M_wants 14 = .ok (.ifCond .lt 10, 3) := by decide +kernel
theorem d_M_wants_17 : decode c_M_wants 17 = .ok (.iload_n 2, 1) := by decide +kernel
theorem d_M_wants_18 : decode c_M_wants 18 = .ok (.sipush 200, 3) := by decide +kernel
theorem d_M_wants_21 : decode c_M_wants 21 = .ok (.if_icmp .le 7, 3) := by decide +kernel
theorem d_M_wants_24 : decode c_M_wants 24 = .ok (.iconst 2, 1) := by decide +kernel
theorem d_M_wants_25 : decode c_M_wants 25 = .ok (.goto 4, 3) := by decide +kernel
theorem d_M_wants_28 : decode c_M_wants 28 = .ok (.iconst 0, 1) := by decide +kernel
theorem d_M_wants_29 : decode c_M_wants 29 = .ok (.putfield 69, 3) := by decide +kernel
theorem d_M_wants_32 : decode c_M_wants 32 = .ok (.aload_n 0, 1) := by decide +kernel
theorem d_M_wants_33 : decode c_M_wants 33 = .ok (.getfield 69, 3) := by decide +kernel
theorem d_M_wants_36 : decode c_M_wants 36 = .ok (.ifCond .ne 13, 3) := by decide +kernel
theorem d_M_wants_39 : decode c_M_wants 39 = .ok (.aload_n 0, 1) := by decide +kernel
theorem d_M_wants_40 : decode c_M_wants 40 = .ok (.getfield 20, 3) := by decide +kernel
theorem d_M_wants_43 : decode c_M_wants 43 = .ok (.iload_n 1, 1) := by decide +kernel
theorem d_M_wants_44 : decode c_M_wants 44 = .ok (.iaload, 1) := by decide +kernel
theorem d_M_wants_45 : decode c_M_wants 45 = .ok (.iload_n 2, 1) := by decide +kernel
theorem d_M_wants_46 : decode c_M_wants 46 = .ok (.if_icmp .ne 5, 3) := by decide +kernel
theorem d_M_wants_49 : decode c_M_wants 49 = .ok (.iconst 0, 1) := by decide +kernel
theorem d_M_wants_50 : decode c_M_wants 50 = .ok (.ireturn, 1) := by decide +kernel
theorem d_M_wants_51 : decode c_M_wants 51 = .ok (.aload_n 0, 1) := by decide +kernel
theorem d_M_wants_52 : decode c_M_wants 52 = .ok (.getfield 20, 3) := by decide +kernel
theorem d_M_wants_55 : decode c_M_wants 55 = .ok (.iload_n 1, 1) := by decide +kernel
theorem d_M_wants_56 : decode c_M_wants 56 = .ok (.iload_n 2, 1) := by decide +kernel
theorem d_M_wants_57 : decode c_M_wants 57 = .ok (.iastore, 1) := by decide +kernel
theorem d_M_wants_58 : decode c_M_wants 58 = .ok (.iconst 1, 1) := by decide +kernel
theorem d_M_wants_59 : decode c_M_wants 59 = .ok (.ireturn, 1) := by decide +kernel
theorem d_M_findBox_0 : decode c_M_findBox 0 = .ok (.aload_n 0, 1) := by decide +kernel
theorem d_M_findBox_1 : decode c_M_findBox 1 = .ok (.getfield 45, 3) := by decide +kernel
theorem d_M_findBox_4 : decode c_M_findBox 4 = .ok (.iload_n 1, 1) := by decide +kernel
theorem d_M_findBox_5 : decode c_M_findBox 5 = .ok (.lconst 0, 1) := by decide +kernel
theorem d_M_findBox_6 : decode c_M_findBox 6 = .ok (.lastore, 1) := by decide +kernel
theorem d_M_findBox_7 : decode c_M_findBox 7 = .ok (.aload_n 0, 1) := by decide +kernel
theorem d_M_findBox_8 : decode c_M_findBox 8 = .ok (.getfield 48, 3) := by decide +kernel
theorem d_M_findBox_11 : decode c_M_findBox 11 = .ok (.iload_n 1, 1) := by decide +kernel
theorem d_M_findBox_12 : decode c_M_findBox 12 = .ok (.lconst 0, 1) := by decide +kernel
theorem d_M_findBox_13 : decode c_M_findBox 13 = .ok (.lastore, 1) := by decide +kernel
theorem d_M_findBox_14 : decode c_M_findBox 14 = .ok (.lconst 0, 1) := by decide +kernel
theorem d_M_findBox_15 : decode c_M_findBox 15 = .ok (.lstore_n 2, 1) := by decide +kernel
theorem d_M_findBox_16 : decode c_M_findBox 16 = .ok (.lconst 0, 1) := by decide +kernel
theorem d_M_findBox_17 : decode c_M_findBox 17 = .ok (.lstore 4, 2) := by decide +kernel
theorem d_M_findBox_19 : decode c_M_findBox 19 = .ok (.bipush 12, 2) := by decide +kernel
theorem d_M_findBox_21 : decode c_M_findBox 21 = .ok (.iload_n 1, 1) := by decide +kernel
theorem d_M_findBox_22 : decode c_M_findBox 22 = .ok (.imul, 1) := by decide +kernel
theorem d_M_findBox_23 : decode c_M_findBox 23 = .ok (.istore 6, 2) := by decide +kernel
theorem d_M_findBox_25 : decode c_M_findBox 25 = .ok (.iload 6, 2) := by decide +kernel
theorem d_M_findBox_27 : decode c_M_findBox 27 = .ok (.bipush 12, 2) := by decide +kernel
theorem d_M_findBox_29 : decode c_M_findBox 29 = .ok (.iload_n 1, 1) := by decide +kernel
theorem d_M_findBox_30 : decode c_M_findBox 30 = .ok (.imul, 1) := by decide +kernel
theorem d_M_findBox_31 : decode c_M_findBox 31 = .ok (.aload_n 0, 1) := by decide +kernel
theorem d_M_findBox_32 : decode c_M_findBox 32 = .ok (.getfield 7, 3) := by decide +kernel
theorem d_M_findBox_35 : decode c_M_findBox 35 = .ok (.iload_n 1, 1) := by decide +kernel
theorem d_M_findBox_36 : decode c_M_findBox 36 = .ok (.iaload, 1) := by decide +kernel
theorem d_M_findBox_37 : decode c_M_findBox 37 = .ok (.iadd, 1) := by decide +kernel
theorem d_M_findBox_38 : decode c_M_findBox 38 = .ok (.if_icmp .ge 203, 3) := by decide +kernel
theorem d_M_findBox_41 : decode c_M_findBox 41 = .ok (.iload 6, 2) := by decide +kernel
theorem d_M_findBox_43 : decode c_M_findBox 43 = .ok (.bipush 12, 2) := by decide +kernel
theorem d_M_findBox_45 : decode c_M_findBox 45 = .ok (.iload_n 1, 1) := by decide +kernel
theorem d_M_findBox_46 : decode c_M_findBox 46 = .ok (.imul, 1) := by decide +kernel
theorem d_M_findBox_47 : decode c_M_findBox 47 = .ok (.if_icmp .ne 7, 3) := by decide +kernel
theorem d_M_findBox_50 : decode c_M_findBox 50 = .ok (.iconst 1, 1) := by decide +kernel
theorem d_M_findBox_51 : decode c_M_findBox 51 = .ok (.goto 4, 3) := by decide +kernel
theorem d_M_findBox_54 : decode c_M_findBox 54 = .ok (.iconst 0, 1) := by decide +kernel
theorem d_M_findBox_55 : decode c_M_findBox 55 = .ok (.istore 7, 2) := by decide +kernel
theorem d_M_findBox_57 : decode c_M_findBox 57 = .ok (.aload_n 0, 1) := by decide +kernel
theorem d_M_findBox_58 : decode c_M_findBox 58 = .ok (.getfield 39, 3) := by decide +kernel
theorem d_M_findBox_61 : decode c_M_findBox 61 = .ok (.iload_n 1, 1) := by decide +kernel
theorem d_M_findBox_62 : decode c_M_findBox 62 = .ok (.iload 7, 2) := by decide +kernel
theorem d_M_findBox_64 : decode c_M_findBox 64 = .ok (.ifCond .ne 20, 3) := by decide +kernel
theorem d_M_findBox_67 : decode c_M_findBox 67 = .ok (.aload_n 0, 1) := by decide +kernel
theorem d_M_findBox_68 : decode c_M_findBox 68 = .ok (.getfield 13, 3) := by decide +kernel
theorem d_M_findBox_71 : decode c_M_findBox 71 = .ok (.iload 6, 2) := by decide +kernel
theorem d_M_findBox_73 : decode c_M_findBox 73 = .ok (.laload, 1) := by decide +kernel
theorem d_M_findBox_74 : decode c_M_findBox 74 = .ok (.aload_n 0, 1) := by decide +kernel
theorem d_M_findBox_75 : decode c_M_findBox 75 = .ok (.getfield 39, 3) := by decide +kernel
theorem d_M_findBox_78 : decode c_M_findBox 78 = .ok (.iload_n 1, 1) := by decide +kernel
theorem d_M_findBox_79 : decode c_M_findBox 79 = .ok (.laload, 1) := by decide +kernel
theorem d_M_findBox_80 : decode c_M_findBox 80 = .ok (.lcmp, 1) := by decide +kernel
theorem d_M_findBox_81 : decode c_M_findBox 81 = .ok (.ifCond .ge 13, 3) := by decide +kernel
theorem d_M_findBox_84 : decode c_M_findBox 84 = .ok (.aload_n 0, 1) := by decide +kernel
theorem d_M_findBox_85 : decode c_M_findBox 85 = .ok (.getfield 13, 3) := by decide +kernel
theorem d_M_findBox_88 : decode c_M_findBox 88 = .ok (.iload 6, 2) := by decide +kernel
theorem d_M_findBox_90 : decode c_M_findBox 90 = .ok (.laload, 1) := by decide +kernel
theorem d_M_findBox_91 : decode c_M_findBox 91 = .ok (.goto 9, 3) := by decide +kernel
theorem d_M_findBox_94 : decode c_M_findBox 94 = .ok (.aload_n 0, 1) := by decide +kernel
theorem d_M_findBox_95 : decode c_M_findBox 95 = .ok (.getfield 39, 3) := by decide +kernel
theorem d_M_findBox_98 : decode c_M_findBox 98 = .ok (.iload_n 1, 1) := by decide +kernel
theorem d_M_findBox_99 : decode c_M_findBox 99 = .ok (.laload, 1) := by decide +kernel
theorem d_M_findBox_100 : decode c_M_findBox 100 = .ok (.lastore, 1) := by decide +kernel
theorem d_M_findBox_101 : decode c_M_findBox 101 = .ok (.aload_n 0, 1) := by decide +kernel
theorem d_M_findBox_102 : decode c_M_findBox 102 = .ok (.getfield 42, 3) := by decide +kernel
theorem d_M_findBox_105 : decode c_M_findBox 105 = .ok (.iload_n 1, 1) := by decide +kernel
theorem d_M_findBox_106 : decode c_M_findBox 106 = .ok (.iload 7, 2) := by decide +kernel
theorem d_M_findBox_108 : decode c_M_findBox 108 = .ok (.ifCond .ne 20, 3) := by decide +kernel
theorem d_M_findBox_111 : decode c_M_findBox 111 = .ok (.aload_n 0, 1) := by decide +kernel
theorem d_M_findBox_112 : decode c_M_findBox 112 = .ok (.getfield 17, 3) := by decide +kernel
theorem d_M_findBox_115 : decode c_M_findBox 115 = .ok (.iload 6, 2) := by decide +kernel
theorem d_M_findBox_117 : decode c_M_findBox 117 = .ok (.laload, 1) := by decide +kernel
theorem d_M_findBox_118 : decode c_M_findBox 118 = .ok (.aload_n 0, 1) := by decide +kernel
theorem d_M_findBox_119 : decode c_M_findBox 119 = .ok (.getfield 42, 3) := by decide +kernel
theorem d_M_findBox_122 : decode c_M_findBox 122 = .ok (.iload_n 1, 1) := by decide +kernel
theorem d_M_findBox_123 : decode c_M_findBox 123 = .ok (.laload, 1) := by decide +kernel
theorem d_M_findBox_124 : decode c_M_findBox 124 = .ok (.lcmp, 1) := by decide +kernel
theorem d_M_findBox_125 : decode c_M_findBox 125 = .ok (.ifCond .ge 13, 3) := by decide +kernel
theorem d_M_findBox_128 : decode c_M_findBox 128 = .ok (.aload_n 0, 1) := by decide +kernel
theorem d_M_findBox_129 : decode c_M_findBox 129 = .ok (.getfield 17, 3) := by decide +kernel
theorem d_M_findBox_132 : decode c_M_findBox 132 = .ok (.iload 6, 2) := by decide +kernel
theorem d_M_findBox_134 : decode c_M_findBox 134 = .ok (.laload, 1) := by decide +kernel
theorem d_M_findBox_135 : decode c_M_findBox 135 = .ok (.goto 9, 3) := by decide +kernel
theorem d_M_findBox_138 : decode c_M_findBox 138 = .ok (.aload_n 0, 1) := by decide +kernel
theorem d_M_findBox_139 : decode c_M_findBox 139 = .ok (.getfield 42, 3) := by decide +kernel
theorem d_M_findBox_142 : decode c_M_findBox 142 = .ok (.iload_n 1, 1) := by decide +kernel
theorem d_M_findBox_143 : decode c_M_findBox 143 = .ok (.laload, 1) := by decide +kernel
theorem d_M_findBox_144 : decode c_M_findBox 144 = .ok (.lastore, 1) := by decide +kernel
theorem d_M_findBox_145 : decode c_M_findBox 145 = .ok (.iload 7, 2) := by decide +kernel
theorem d_M_findBox_147 : decode c_M_findBox 147 = .ok (.ifCond .ne 15, 3) := by decide +kernel
theorem d_M_findBox_150 : decode c_M_findBox 150 = .ok (.aload_n 0, 1) := by decide +kernel
theorem d_M_findBox_151 : decode c_M_findBox 151 = .ok (.getfield 13, 3) := by decide +kernel
theorem d_M_findBox_154 : decode c_M_findBox 154 = .ok (.iload 6, 2) := by decide +kernel
theorem d_M_findBox_156 : decode c_M_findBox 156 = .ok (.laload, 1) := by decide +kernel
theorem d_M_findBox_157 : decode c_M_findBox 157 = .ok (.lload_n 2, 1) := by decide +kernel
theorem d_M_findBox_158 : decode c_M_findBox 158 = .ok (.lcmp, 1) := by decide +kernel
theorem d_M_findBox_159 : decode c_M_findBox 159 = .ok (.ifCond .le 13, 3) := by decide +kernel
theorem d_M_findBox_162 : decode c_M_findBox 162 = .ok (.aload_n 0, 1) := by decide +kernel
theorem d_M_findBox_163 : decode c_M_findBox 163 = .ok (.getfield 13, 3) := by decide +kernel
theorem d_M_findBox_166 : decode c_M_findBox 166 = .ok (.iload 6, 2) := by decide +kernel
theorem d_M_findBox_168 : decode c_M_findBox 168 = .ok (.laload, 1) := by decide +kernel
theorem d_M_findBox_169 : decode c_M_findBox 169 = .ok (.goto 4, 3) := by decide +kernel
theorem d_M_findBox_172 : decode c_M_findBox 172 = .ok (.lload_n 2, 1) := by decide +kernel
theorem d_M_findBox_173 : decode c_M_findBox 173 = .ok (.lstore_n 2, 1) := by decide +kernel
theorem d_M_findBox_174 : decode c_M_findBox 174 = .ok (.iload 7, 2) := by decide +kernel
theorem d_M_findBox_176 : decode c_M_findBox 176 = .ok (.ifCond .ne 16, 3) := by decide +kernel
theorem d_M_findBox_179 : decode c_M_findBox 179 = .ok (.aload_n 0, 1) := by decide +kernel
theorem d_M_findBox_180 : decode c_M_findBox 180 = .ok (.getfield 17, 3) := by decide +kernel
theorem d_M_findBox_183 : decode c_M_findBox 183 = .ok (.iload 6, 2) := by decide +kernel
theorem d_M_findBox_185 : decode c_M_findBox 185 = .ok (.laload, 1) := by decide +kernel
theorem d_M_findBox_186 : decode c_M_findBox 186 = .ok (.lload 4, 2) := by decide +kernel
theorem d_M_findBox_188 : decode c_M_findBox 188 = .ok (.lcmp, 1) := by decide +kernel
theorem d_M_findBox_189 : decode c_M_findBox 189 = .ok (.ifCond .le 13, 3) := by decide +kernel
theorem d_M_findBox_192 : decode c_M_findBox 192 = .ok (.aload_n 0, 1) := by decide +kernel
theorem d_M_findBox_193 : decode c_M_findBox 193 = .ok (.getfield 17, 3) := by decide +kernel
theorem d_M_findBox_196 : decode c_M_findBox 196 = .ok (.iload 6, 2) := by decide +kernel
theorem d_M_findBox_198 : decode c_M_findBox 198 = .ok (.laload, 1) := by decide +kernel
theorem d_M_findBox_199 : decode c_M_findBox 199 = .ok (.goto 5, 3) := by decide +kernel
theorem d_M_findBox_202 : decode c_M_findBox 202 = .ok (.lload 4, 2) := by decide +kernel
theorem d_M_findBox_204 : decode c_M_findBox 204 = .ok (.lstore 4, 2) := by decide +kernel
theorem d_M_findBox_206 : decode c_M_findBox 206 = .ok (.aload_n 0, 1) := by decide +kernel
theorem d_M_findBox_207 : decode c_M_findBox 207 = .ok (.getfield 45, 3) := by decide +kernel
theorem d_M_findBox_210 : decode c_M_findBox 210 = .ok (.iload_n 1, 1) := by decide +kernel
theorem d_M_findBox_211 : decode c_M_findBox 211 = .ok (.lload_n 2, 1) := by decide +kernel
theorem d_M_findBox_212 : decode c_M_findBox 212 = .ok (.aload_n 0, 1) := by decide +kernel
theorem d_M_findBox_213 : decode c_M_findBox 213 = .ok (.getfield 39, 3) := by decide +kernel
theorem d_M_findBox_216 : decode c_M_findBox 216 = .ok (.iload_n 1, 1) := by decide +kernel
theorem d_M_findBox_217 : decode c_M_findBox 217 = .ok (.laload, 1) := by decide +kernel
theorem d_M_findBox_218 : decode c_M_findBox 218 = .ok (.lsub, 1) := by decide +kernel
theorem d_M_findBox_219 : decode c_M_findBox 219 = .ok (.lastore, 1) := by decide +kernel
theorem d_M_findBox_220 : decode c_M_findBox 220 = .ok (.aload_n 0, 1) := by decide +kernel
theorem d_M_findBox_221 : decode c_M_findBox 221 = .ok (.getfield 48, 3) := by decide +kernel
theorem d_M_findBox_224 : decode c_M_findBox 224 = .ok (.iload_n 1, 1) := by decide +kernel
theorem d_M_findBox_225 : decode c_M_findBox 225 = .ok (.lload 4, 2) := by decide +kernel
theorem d_M_findBox_227 : decode c_M_findBox 227 = .ok (.aload_n 0, 1) := by decide +kernel
theorem d_M_findBox_228 : decode c_M_findBox 228 = .ok (.getfield 42, 3) := by decide +kernel
theorem d_M_findBox_231 : decode c_M_findBox 231 = .ok (.iload_n 1, 1) := by decide +kernel
theorem d_M_findBox_232 : decode c_M_findBox 232 = .ok (.laload, 1) := by decide +kernel
theorem d_M_findBox_233 : decode c_M_findBox 233 = .ok (.lsub, 1) := by decide +kernel
theorem d_M_findBox_234 : decode c_M_findBox 234 = .ok (.lastore, 1) := by decide +kernel
theorem d_M_findBox_235 : decode c_M_findBox 235 = .ok (.iinc 6 1, 3) := by decide +kernel
theorem d_M_findBox_238 : decode c_M_findBox 238 = .ok (.goto (-213), 3) := by decide +kernel
theorem d_M_findBox_241 : decode c_M_findBox 241 = .ok (.return_, 1) := by decide +kernel
theorem d_M_wideOf_0 : decode c_M_wideOf 0 = .ok (.iload_n 1, 1) := by decide +kernel
theorem d_M_wideOf_1 : decode c_M_wideOf 1 = .ok (.iconst 2, 1) := by decide +kernel
theorem d_M_wideOf_2 : decode c_M_wideOf 2 = .ok (.irem, 1) := by decide +kernel
theorem d_M_wideOf_3 : decode c_M_wideOf 3 = .ok (.ifCond .ne 14, 3) := by decide +kernel
theorem d_M_wideOf_6 : decode c_M_wideOf 6 = .ok (.aload_n 0, 1) := by decide +kernel
theorem d_M_wideOf_7 : decode c_M_wideOf 7 = .ok (.getfield 45, 3) := by decide +kernel
theorem d_M_wideOf_10 : decode c_M_wideOf 10 = .ok (.iload_n 1, 1) := by decide +kernel
theorem d_M_wideOf_11 : decode c_M_wideOf 11 = .ok (.iconst 2, 1) := by decide +kernel
theorem d_M_wideOf_12 : decode c_M_wideOf 12 = .ok (.idiv, 1) := by decide +kernel
theorem d_M_wideOf_13 : decode c_M_wideOf 13 = .ok (.laload, 1) := by decide +kernel
theorem d_M_wideOf_14 : decode c_M_wideOf 14 = .ok (.goto 11, 3) := by decide +kernel
theorem d_M_wideOf_17 : decode c_M_wideOf 17 = .ok (.aload_n 0, 1) := by decide +kernel
theorem d_M_wideOf_18 : decode c_M_wideOf 18 = .ok (.getfield 48, 3) := by decide +kernel
theorem d_M_wideOf_21 : decode c_M_wideOf 21 = .ok (.iload_n 1, 1) := by decide +kernel
theorem d_M_wideOf_22 : decode c_M_wideOf 22 = .ok (.iconst 2, 1) := by decide +kernel
theorem d_M_wideOf_23 : decode c_M_wideOf 23 = .ok (.idiv, 1) := by decide +kernel
theorem d_M_wideOf_24 : decode c_M_wideOf 24 = .ok (.laload, 1) := by decide +kernel
theorem d_M_wideOf_25 : decode c_M_wideOf 25 = .ok (.lreturn, 1) := by decide +kernel
theorem d_M_highOf_0 : decode c_M_highOf 0 = .ok (.iload_n 1, 1) := by decide +kernel
theorem d_M_highOf_1 : decode c_M_highOf 1 = .ok (.iconst 2, 1) := by decide +kernel
theorem d_M_highOf_2 : decode c_M_highOf 2 = .ok (.irem, 1) := by decide +kernel
theorem d_M_highOf_3 : decode c_M_highOf 3 = .ok (.ifCond .ne 14, 3) := by decide +kernel
theorem d_M_highOf_6 : decode c_M_highOf 6 = .ok (.aload_n 0, 1) := by decide +kernel
theorem d_M_highOf_7 : decode c_M_highOf 7 = .ok (.getfield 48, 3) := by decide +kernel
theorem d_M_highOf_10 : decode c_M_highOf 10 = .ok (.iload_n 1, 1) := by decide +kernel
theorem d_M_highOf_11 : decode c_M_highOf 11 = .ok (.iconst 2, 1) := by decide +kernel
theorem d_M_highOf_12 : decode c_M_highOf 12 = .ok (.idiv, 1) := by decide +kernel
theorem d_M_highOf_13 : decode c_M_highOf 13 = .ok (.laload, 1) := by decide +kernel
theorem d_M_highOf_14 : decode c_M_highOf 14 = .ok (.goto 11, 3) := by decide +kernel
theorem d_M_highOf_17 : decode c_M_highOf 17 = .ok (.aload_n 0, 1) := by decide +kernel
theorem d_M_highOf_18 : decode c_M_highOf 18 = .ok (.getfield 45, 3) := by decide +kernel
theorem d_M_highOf_21 : decode c_M_highOf 21 = .ok (.iload_n 1, 1) := by decide +kernel
theorem d_M_highOf_22 : decode c_M_highOf 22 = .ok (.iconst 2, 1) := by decide +kernel
theorem d_M_highOf_23 : decode c_M_highOf 23 = .ok (.idiv, 1) := by decide +kernel
theorem d_M_highOf_24 : decode c_M_highOf 24 = .ok (.laload, 1) := by decide +kernel
theorem d_M_highOf_25 : decode c_M_highOf 25 = .ok (.lreturn, 1) := by decide +kernel
