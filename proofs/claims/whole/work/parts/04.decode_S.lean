theorem d_S_init_0 : decode c_S_init 0 = .ok (.aload_n 0, 1) := by decide +kernel
theorem d_S_init_1 : decode c_S_init 1 = .ok (.invokespecial 3, 3) := by decide +kernel
theorem d_S_init_4 : decode c_S_init 4 = .ok (.aload_n 0, 1) := by decide +kernel
theorem d_S_init_5 : decode c_S_init 5 = .ok (.bipush 8, 2) := by decide +kernel
theorem d_S_init_7 : decode c_S_init 7 = .ok (.newarray .int, 2) := by decide +kernel
theorem d_S_init_9 : decode c_S_init 9 = .ok (.putfield 9, 3) := by decide +kernel
theorem d_S_init_12 : decode c_S_init 12 = .ok (.aload_n 0, 1) := by decide +kernel
theorem d_S_init_13 : decode c_S_init 13 = .ok (.bipush 8, 2) := by decide +kernel
theorem d_S_init_15 : decode c_S_init 15 = .ok (.newarray .long, 2) := by decide +kernel
theorem d_S_init_17 : decode c_S_init 17 = .ok (.putfield 15, 3) := by decide +kernel
theorem d_S_init_20 : decode c_S_init 20 = .ok (.aload_n 0, 1) := by decide +kernel
theorem d_S_init_21 : decode c_S_init 21 = .ok (.iconst 4, 1) := by decide +kernel
theorem d_S_init_22 : decode c_S_init 22 = .ok (.newarray .int, 2) := by decide +kernel
theorem d_S_init_24 : decode c_S_init 24 = .ok (.putfield 19, 3) := by decide +kernel
theorem d_S_init_27 : decode c_S_init 27 = .ok (.aload_n 0, 1) := by decide +kernel
theorem d_S_init_28 : decode c_S_init 28 = .ok (.bipush 9, 2) := by decide +kernel
theorem d_S_init_30 : decode c_S_init 30 = .ok (.newarray .int, 2) := by decide +kernel
theorem d_S_init_32 : decode c_S_init 32 = .ok (.putfield 22, 3) := by decide +kernel
theorem d_S_init_35 : decode c_S_init 35 = .ok (.aload_n 0, 1) := by decide +kernel
theorem d_S_init_36 : decode c_S_init 36 = .ok (.bipush 9, 2) := by decide +kernel
theorem d_S_init_38 : decode c_S_init 38 = .ok (.newarray .int, 2) := by decide +kernel
theorem d_S_init_40 : decode c_S_init 40 = .ok (.putfield 25, 3) := by decide +kernel
theorem d_S_init_43 : decode c_S_init 43 = .ok (.aload_n 0, 1) := by decide +kernel
theorem d_S_init_44 : decode c_S_init 44 = .ok (.bipush 9, 2) := by decide +kernel
theorem d_S_init_46 : decode c_S_init 46 = .ok (.newarray .int, 2) := by decide +kernel
theorem d_S_init_48 : decode c_S_init 48 = .ok (.putfield 28, 3) := by decide +kernel
theorem d_S_init_51 : decode c_S_init 51 = .ok (.aload_n 0, 1) := by decide +kernel
theorem d_S_init_52 : decode c_S_init 52 = .ok (.bipush 9, 2) := by decide +kernel
theorem d_S_init_54 : decode c_S_init 54 = .ok (.newarray .int, 2) := by decide +kernel
theorem d_S_init_56 : decode c_S_init 56 = .ok (.putfield 31, 3) := by decide +kernel
theorem d_S_init_59 : decode c_S_init 59 = .ok (.return_, 1) := by decide +kernel
theorem d_S_begin_0 : decode c_S_begin 0 = .ok (.aload_n 0, 1) := by decide +kernel
theorem d_S_begin_1 : decode c_S_begin 1 = .ok (.lload_n 1, 1) := by decide +kernel
theorem d_S_begin_2 : decode c_S_begin 2 = .ok (.putfield 34, 3) := by decide +kernel
theorem d_S_begin_5 : decode c_S_begin 5 = .ok (.aload_n 0, 1) := by decide +kernel
theorem d_S_begin_6 : decode c_S_begin 6 = .ok (.iconst 0, 1) := by decide +kernel
theorem d_S_begin_7 : decode c_S_begin 7 = .ok (.putfield 38, 3) := by decide +kernel
theorem d_S_begin_10 : decode c_S_begin 10 = .ok (.aload_n 0, 1) := by decide +kernel
theorem d_S_begin_11 : decode c_S_begin 11 = .ok (.iconst 0, 1) := by decide +kernel
theorem d_S_begin_12 : decode c_S_begin 12 = .ok (.putfield 42, 3) := by decide +kernel
theorem d_S_begin_15 : decode c_S_begin 15 = .ok (.aload_n 0, 1) := by decide +kernel
theorem d_S_begin_16 : decode c_S_begin 16 = .ok (.iconst 0, 1) := by decide +kernel
theorem d_S_begin_17 : decode c_S_begin 17 = .ok (.putfield 45, 3) := by decide +kernel
theorem d_S_begin_20 : decode c_S_begin 20 = .ok (.iconst 0, 1) := by decide +kernel
theorem d_S_begin_21 : decode c_S_begin 21 = .ok (.istore_n 3, 1) := by decide +kernel
theorem d_S_begin_22 : decode c_S_begin 22 = .ok (.iload_n 3, 1) := by decide +kernel
theorem d_S_begin_23 : decode c_S_begin 23 = .ok (.bipush 8, 2) := by decide +kernel
theorem d_S_begin_25 : decode c_S_begin 25 = .ok (.if_icmp .ge 16, 3) := by decide +kernel
theorem d_S_begin_28 : decode c_S_begin 28 = .ok (.aload_n 0, 1) := by decide +kernel
theorem d_S_begin_29 : decode c_S_begin 29 = .ok (.getfield 9, 3) := by decide +kernel
theorem d_S_begin_32 : decode c_S_begin 32 = .ok (.iload_n 3, 1) := by decide +kernel
theorem d_S_begin_33 : decode c_S_begin 33 = .ok (.iconst 0, 1) := by decide +kernel
theorem d_S_begin_34 : decode c_S_begin 34 = .ok (.iastore, 1) := by decide +kernel
theorem d_S_begin_35 : decode c_S_begin 35 = .ok (.iinc 3 1, 3) := by decide +kernel
theorem d_S_begin_38 : decode c_S_begin 38 = .ok (.goto (-16), 3) := by decide +kernel
theorem d_S_begin_41 : decode c_S_begin 41 = .ok (.return_, 1) := by decide +kernel
theorem d_S_allowKind_0 : decode c_S_allowKind 0 = .ok (.aload_n 0, 1) := by decide +kernel
theorem d_S_allowKind_1 : decode c_S_allowKind 1 = .ok (.getfield 9, 3) := by decide +kernel
theorem d_S_allowKind_4 : decode c_S_allowKind 4 = .ok (.iload_n 1, 1) := by decide +kernel
theorem d_S_allowKind_5 : decode c_S_allowKind 5 = .ok (.iload_n 2, 1) := by decide +kernel
theorem d_S_allowKind_6 : decode c_S_allowKind 6 = .ok (.iastore, 1) := by decide +kernel
theorem d_S_allowKind_7 : decode c_S_allowKind 7 = .ok (.aload_n 0, 1) := by decide +kernel
theorem d_S_allowKind_8 : decode c_S_allowKind 8 = .ok (.getfield 15, 3) := by decide +kernel
theorem d_S_allowKind_11 : decode c_S_allowKind 11 = .ok (.iload_n 1, 1) := by decide +kernel
theorem d_S_allowKind_12 : decode c_S_allowKind 12 = .ok (.lload_n 3, 1) := by decide +kernel
theorem d_S_allowKind_13 : decode c_S_allowKind 13 = .ok (.lastore, 1) := by decide +kernel
theorem d_S_allowKind_14 : decode c_S_allowKind 14 = .ok (.aload_n 0, 1) := by decide +kernel
theorem d_S_allowKind_15 : decode c_S_allowKind 15 = .ok (.aload_n 0, 1) := by decide +kernel
theorem d_S_allowKind_16 : decode c_S_allowKind 16 = .ok (.getfield 45, 3) := by decide +kernel
theorem d_S_allowKind_19 : decode c_S_allowKind 19 = .ok (.iload_n 2, 1) := by decide +kernel
theorem d_S_allowKind_20 : decode c_S_allowKind 20 = .ok (.invokestatic 48, 3) := by decide +kernel
theorem d_S_allowKind_23 : decode c_S_allowKind 23 = .ok (.putfield 45, 3) := by decide +kernel
theorem d_S_allowKind_26 : decode c_S_allowKind 26 = .ok (.return_, 1) := by decide +kernel
theorem d_S_look_0 : decode c_S_look 0 = .ok (.aload_n 0, 1) := by decide +kernel
theorem d_S_look_1 : decode c_S_look 1 = .ok (.iload_n 1, 1) := by decide +kernel
theorem d_S_look_2 : decode c_S_look 2 = .ok (.bipush 9, 2) := by decide +kernel
theorem d_S_look_4 : decode c_S_look 4 = .ok (.invokestatic 54, 3) := by decide +kernel
theorem d_S_look_7 : decode c_S_look 7 = .ok (.putfield 57, 3) := by decide +kernel
theorem d_S_look_10 : decode c_S_look 10 = .ok (.aload_n 0, 1) := by decide +kernel
theorem d_S_look_11 : decode c_S_look 11 = .ok (.iconst 0, 1) := by decide +kernel
theorem d_S_look_12 : decode c_S_look 12 = .ok (.iconst 0, 1) := by decide +kernel
theorem d_S_look_13 : decode c_S_look 13 = .ok (.iconst 0, 1) := by decide +kernel
theorem d_S_look_14 : decode c_S_look 14 = .ok (.lload_n 2, 1) := by decide +kernel
theorem d_S_look_15 : decode c_S_look 15 = .ok (.invokevirtual 60, 3) := by decide +kernel
theorem d_S_look_18 : decode c_S_look 18 = .ok (.return_, 1) := by decide +kernel
theorem d_S_findsMore_0 : decode c_S_findsMore 0 = .ok (.aload_n 0, 1) := by decide +kernel
theorem d_S_findsMore_1 : decode c_S_findsMore 1 = .ok (.getfield 42, 3) := by decide +kernel
theorem d_S_findsMore_4 : decode c_S_findsMore 4 = .ok (.istore 4, 2) := by decide +kernel
theorem d_S_findsMore_6 : decode c_S_findsMore 6 = .ok (.aload_n 0, 1) := by decide +kernel
theorem d_S_findsMore_7 : decode c_S_findsMore 7 = .ok (.iload_n 1, 1) := by decide +kernel
theorem d_S_findsMore_8 : decode c_S_findsMore 8 = .ok (.lload_n 2, 1) := by decide +kernel
theorem d_S_findsMore_9 : decode c_S_findsMore 9 = .ok (.invokevirtual 64, 3) := by decide +kernel
theorem d_S_findsMore_12 : decode c_S_findsMore 12 = .ok (.aload_n 0, 1) := by decide +kernel
theorem d_S_findsMore_13 : decode c_S_findsMore 13 = .ok (.getfield 42, 3) := by decide +kernel
theorem d_S_findsMore_16 : decode c_S_findsMore 16 = .ok (.iload 4, 2) := by decide +kernel
theorem d_S_findsMore_18 : decode c_S_findsMore 18 = .ok (.if_icmp .le 7, 3) := by decide +kernel
theorem d_S_findsMore_21 : decode c_S_findsMore 21 = .ok (.iconst 1, 1) := by decide +kernel
theorem d_S_findsMore_22 : decode c_S_findsMore 22 = .ok (.goto 4, 3) := by decide +kernel
theorem d_S_findsMore_25 : decode c_S_findsMore 25 = .ok (.iconst 0, 1) := by decide +kernel
theorem d_S_findsMore_26 : decode c_S_findsMore 26 = .ok (.ireturn, 1) := by decide +kernel
theorem d_S_tryRow_0 : decode c_S_tryRow 0 = .ok (.iload_n 1, 1) := by decide +kernel
theorem d_S_tryRow_1 : decode c_S_tryRow 1 = .ok (.aload_n 0, 1) := by decide +kernel
theorem d_S_tryRow_2 : decode c_S_tryRow 2 = .ok (.getfield 57, 3) := by decide +kernel
theorem d_S_tryRow_5 : decode c_S_tryRow 5 = .ok (.if_icmp .ge 23, 3) := by decide +kernel
theorem d_S_tryRow_8 : decode c_S_tryRow 8 = .ok (.iload_n 3, 1) := by decide +kernel
theorem d_S_tryRow_9 : decode c_S_tryRow 9 = .ok (.aload_n 0, 1) := by decide +kernel
theorem d_S_tryRow_10 : decode c_S_tryRow 10 = .ok (.getfield 57, 3) := by decide +kernel
theorem d_S_tryRow_13 : decode c_S_tryRow 13 = .ok (.iload_n 1, 1) := by decide +kernel
theorem d_S_tryRow_14 : decode c_S_tryRow 14 = .ok (.isub, 1) := by decide +kernel
theorem d_S_tryRow_15 : decode c_S_tryRow 15 = .ok (.aload_n 0, 1) := by decide +kernel
theorem d_S_tryRow_16 : decode c_S_tryRow 16 = .ok (.getfield 45, 3) := by decide +kernel
theorem d_S_tryRow_19 : decode c_S_tryRow 19 = .ok (.imul, 1) := by decide +kernel
theorem d_S_tryRow_20 : decode c_S_tryRow 20 = .ok (.iadd, 1) := by decide +kernel
theorem d_S_tryRow_21 : decode c_S_tryRow 21 = .ok (.aload_n 0, 1) := by decide +kernel
theorem d_S_tryRow_22 : decode c_S_tryRow 22 = .ok (.getfield 42, 3) := by decide +kernel
theorem d_S_tryRow_25 : decode c_S_tryRow 25 = .ok (.if_icmp .gt 4, 3) := by decide +kernel
theorem d_S_tryRow_28 : decode c_S_tryRow 28 = .ok (.return_, 1) := by decide +kernel
theorem d_S_tryRow_29 : decode c_S_tryRow 29 = .ok (.iload_n 2, 1) := by decide +kernel
theorem d_S_tryRow_30 : decode c_S_tryRow 30 = .ok (.istore 6, 2) := by decide +kernel
theorem d_S_tryRow_32 : decode c_S_tryRow 32 = .ok (.iload 6, 2) := by decide +kernel
theorem d_S_tryRow_34 : decode c_S_tryRow 34 = .ok (.bipush 8, 2) := by decide +kernel
theorem d_S_tryRow_36 : decode c_S_tryRow 36 = .ok (.if_icmp .ge 131, 3) := by decide +kernel
theorem d_S_tryRow_39 : decode c_S_tryRow 39 = .ok (.iload 6, 2) := by decide +kernel
theorem d_S_tryRow_41 : decode c_S_tryRow 41 = .ok (.iconst 2, 1) := by decide +kernel
theorem d_S_tryRow_42 : decode c_S_tryRow 42 = .ok (.idiv, 1) := by decide +kernel
theorem d_S_tryRow_43 : decode c_S_tryRow 43 = .ok (.istore 7, 2) := by decide +kernel
theorem d_S_tryRow_45 : decode c_S_tryRow 45 = .ok (.aload_n 0, 1) := by decide +kernel
theorem d_S_tryRow_46 : decode c_S_tryRow 46 = .ok (.getfield 9, 3) := by decide +kernel
theorem d_S_tryRow_49 : decode c_S_tryRow 49 = .ok (.iload 6, 2) := by decide +kernel
theorem d_S_tryRow_51 : decode c_S_tryRow 51 = .ok (.iaload, 1) := by decide +kernel
theorem d_S_tryRow_52 : decode c_S_tryRow 52 = .ok (.aload_n 0, 1) := by decide +kernel
theorem d_S_tryRow_53 : decode c_S_tryRow 53 = .ok (.getfield 19, 3) := by decide +kernel
theorem d_S_tryRow_56 : decode c_S_tryRow 56 = .ok (.iload 7, 2) := by decide +kernel
theorem d_S_tryRow_58 : decode c_S_tryRow 58 = .ok (.iaload, 1) := by decide +kernel
theorem d_S_tryRow_59 : decode c_S_tryRow 59 = .ok (.invokestatic 54, 3) := by decide +kernel
theorem d_S_tryRow_62 : decode c_S_tryRow 62 = .ok (.istore 8, 2) := by decide +kernel
theorem d_S_tryRow_64 : decode c_S_tryRow 64 = .ok (.iload 8, 2) := by decide +kernel
theorem d_S_tryRow_66 : decode c_S_tryRow 66 = .ok (.ifCond .le 95, 3) := by decide +kernel
theorem d_S_tryRow_69 : decode c_S_tryRow 69 = .ok (.aload_n 0, 1) := by decide +kernel
theorem d_S_tryRow_70 : decode c_S_tryRow 70 = .ok (.getfield 15, 3) := by decide +kernel
theorem d_S_tryRow_73 : decode c_S_tryRow 73 = .ok (.iload 6, 2) := by decide +kernel
theorem d_S_tryRow_75 : decode c_S_tryRow 75 = .ok (.laload, 1) := by decide +kernel
theorem d_S_tryRow_76 : decode c_S_tryRow 76 = .ok (.lload 4, 2) := by decide +kernel
theorem d_S_tryRow_78 : decode c_S_tryRow 78 = .ok (.lcmp, 1) := by decide +kernel
theorem d_S_tryRow_79 : decode c_S_tryRow 79 = .ok (.ifCond .gt 82, 3) := by decide +kernel
theorem d_S_tryRow_82 : decode c_S_tryRow 82 = .ok (.aload_n 0, 1) := by decide +kernel
theorem d_S_tryRow_83 : decode c_S_tryRow 83 = .ok (.getfield 22, 3) := by decide +kernel
theorem d_S_tryRow_86 : decode c_S_tryRow 86 = .ok (.iload_n 1, 1) := by decide +kernel
theorem d_S_tryRow_87 : decode c_S_tryRow 87 = .ok (.iload 6, 2) := by decide +kernel
theorem d_S_tryRow_89 : decode c_S_tryRow 89 = .ok (.iastore, 1) := by decide +kernel
theorem d_S_tryRow_90 : decode c_S_tryRow 90 = .ok (.aload_n 0, 1) := by decide +kernel
theorem d_S_tryRow_91 : decode c_S_tryRow 91 = .ok (.getfield 25, 3) := by decide +kernel
theorem d_S_tryRow_94 : decode c_S_tryRow 94 = .ok (.iload_n 1, 1) := by decide +kernel
theorem d_S_tryRow_95 : decode c_S_tryRow 95 = .ok (.iload 8, 2) := by decide +kernel
theorem d_S_tryRow_97 : decode c_S_tryRow 97 = .ok (.iastore, 1) := by decide +kernel
theorem d_S_tryRow_98 : decode c_S_tryRow 98 = .ok (.aload_n 0, 1) := by decide +kernel
theorem d_S_tryRow_99 : decode c_S_tryRow 99 = .ok (.getfield 19, 3) := by decide +kernel
theorem d_S_tryRow_102 : decode c_S_tryRow 102 = .ok (.iload 7, 2) := by decide +kernel
theorem d_S_tryRow_104 : decode c_S_tryRow 104 = .ok (.dup2, 1) := by decide +kernel
theorem d_S_tryRow_105 : decode c_S_tryRow 105 = .ok (.iaload, 1) := by decide +kernel
theorem d_S_tryRow_106 : decode c_S_tryRow 106 = .ok (.iload 8, 2) := by decide +kernel
theorem d_S_tryRow_108 : decode c_S_tryRow 108 = .ok (.isub, 1) := by decide +kernel
theorem d_S_tryRow_109 : decode c_S_tryRow 109 = .ok (.iastore, 1) := by decide +kernel
theorem d_S_tryRow_110 : decode c_S_tryRow 110 = .ok (.aload_n 0, 1) := by decide +kernel
theorem d_S_tryRow_111 : decode c_S_tryRow 111 = .ok (.iload_n 1, 1) := by decide +kernel
theorem d_S_tryRow_112 : decode c_S_tryRow 112 = .ok (.iconst 1, 1) := by decide +kernel
theorem d_S_tryRow_113 : decode c_S_tryRow 113 = .ok (.iadd, 1) := by decide +kernel
theorem d_S_tryRow_114 : decode c_S_tryRow 114 = .ok (.iload_n 3, 1) := by decide +kernel
theorem d_S_tryRow_115 : decode c_S_tryRow 115 = .ok (.iload 8, 2) := by decide +kernel
theorem d_S_tryRow_117 : decode c_S_tryRow 117 = .ok (.iadd, 1) := by decide +kernel
theorem d_S_tryRow_118 : decode c_S_tryRow 118 = .ok (.invokevirtual 68, 3) := by decide +kernel
theorem d_S_tryRow_121 : decode c_S_tryRow 121 = .ok (.aload_n 0, 1) := by decide +kernel
theorem d_S_tryRow_122 : decode c_S_tryRow 122 = .ok (.iload_n 1, 1) := by decide +kernel
theorem d_S_tryRow_123 : decode c_S_tryRow 123 = .ok (.iconst 1, 1) := by decide +kernel
theorem d_S_tryRow_124 : decode c_S_tryRow 124 = .ok (.iadd, 1) := by decide +kernel
theorem d_S_tryRow_125 : decode c_S_tryRow 125 = .ok (.iload 6, 2) := by decide +kernel
theorem d_S_tryRow_127 : decode c_S_tryRow 127 = .ok (.iload_n 3, 1) := by decide +kernel
theorem d_S_tryRow_128 : decode c_S_tryRow 128 = .ok (.iload 8, 2) := by decide +kernel
theorem d_S_tryRow_130 : decode c_S_tryRow 130 = .ok (.iadd, 1) := by decide +kernel
theorem d_S_tryRow_131 : decode c_S_tryRow 131 = .ok (.lload 4, 2) := by decide +kernel
theorem d_S_tryRow_133 : decode c_S_tryRow 133 = .ok (.aload_n 0, 1) := by decide +kernel
theorem d_S_tryRow_134 : decode c_S_tryRow 134 = .ok (.getfield 15, 3) := by decide +kernel
theorem d_S_tryRow_137 : decode c_S_tryRow 137 = .ok (.iload 6, 2) := by decide +kernel
theorem d_S_tryRow_139 : decode c_S_tryRow 139 = .ok (.laload, 1) := by decide +kernel
theorem d_S_tryRow_140 : decode c_S_tryRow 140 = .ok (.lsub, 1) := by decide +kernel
theorem d_S_tryRow_141 : decode c_S_tryRow 141 = .ok (.aload_n 0, 1) := by decide +kernel
theorem d_S_tryRow_142 : decode c_S_tryRow 142 = .ok (.getfield 34, 3) := by decide +kernel
theorem d_S_tryRow_145 : decode c_S_tryRow 145 = .ok (.lsub, 1) := by decide +kernel
theorem d_S_tryRow_146 : decode c_S_tryRow 146 = .ok (.invokevirtual 60, 3) := by decide +kernel
theorem d_S_tryRow_149 : decode c_S_tryRow 149 = .ok (.aload_n 0, 1) := by decide +kernel
theorem d_S_tryRow_150 : decode c_S_tryRow 150 = .ok (.getfield 19, 3) := by decide +kernel
theorem d_S_tryRow_153 : decode c_S_tryRow 153 = .ok (.iload 7, 2) := by decide +kernel
theorem d_S_tryRow_155 : decode c_S_tryRow 155 = .ok (.dup2, 1) := by decide +kernel
theorem d_S_tryRow_156 : decode c_S_tryRow 156 = .ok (.iaload, 1) := by decide +kernel
theorem d_S_tryRow_157 : decode c_S_tryRow 157 = .ok (.iload 8, 2) := by decide +kernel
theorem d_S_tryRow_159 : decode c_S_tryRow 159 = .ok (.iadd, 1) := by decide +kernel
theorem d_S_tryRow_160 : decode c_S_tryRow 160 = .ok (.iastore, 1) := by decide +kernel
theorem d_S_tryRow_161 : decode c_S_tryRow 161 = .ok (.iinc 6 1, 3) := by decide +kernel
theorem d_S_tryRow_164 : decode c_S_tryRow 164 = .ok (.goto (-132), 3) := by decide +kernel
theorem d_S_tryRow_167 : decode c_S_tryRow 167 = .ok (.return_, 1) := by decide +kernel
theorem d_S_keepIfBetter_0 : decode c_S_keepIfBetter 0 = .ok (.iload_n 2, 1) := by decide +kernel
theorem d_S_keepIfBetter_1 : decode c_S_keepIfBetter 1 = .ok (.aload_n 0, 1) := by decide +kernel
theorem d_S_keepIfBetter_2 : decode c_S_keepIfBetter 2 = .ok (.getfield 42, 3) := by decide +kernel
theorem d_S_keepIfBetter_5 : decode c_S_keepIfBetter 5 = .ok (.if_icmp .lt 19, 3) := by decide +kernel
theorem d_S_keepIfBetter_8 : decode c_S_keepIfBetter 8 = .ok (.iload_n 2, 1) := by decide +kernel
theorem d_S_keepIfBetter_9 : decode c_S_keepIfBetter 9 = .ok (.aload_n 0, 1) := by decide +kernel
theorem d_S_keepIfBetter_10 : decode c_S_keepIfBetter 10 = .ok (.getfield 42, 3) := by decide +kernel
theorem d_S_keepIfBetter_13 : decode c_S_keepIfBetter 13 = .ok (.if_icmp .ne 12, 3) := by decide +kernel
theorem d_S_keepIfBetter_16 : decode c_S_keepIfBetter 16 = .ok (.iload_n 1, 1) := by decide +kernel
theorem d_S_keepIfBetter_17 : decode c_S_keepIfBetter 17 = .ok (.aload_n 0, 1) := by decide +kernel
theorem d_S_keepIfBetter_18 : decode c_S_keepIfBetter 18 = .ok (.getfield 38, 3) := by decide +kernel
theorem d_S_keepIfBetter_21 : decode c_S_keepIfBetter 21 = .ok (.if_icmp .lt 4, 3) := by decide +kernel
theorem d_S_keepIfBetter_24 : decode c_S_keepIfBetter 24 = .ok (.return_, 1) := by decide +kernel
theorem d_S_keepIfBetter_25 : decode c_S_keepIfBetter 25 = .ok (.aload_n 0, 1) := by decide +kernel
theorem d_S_keepIfBetter_26 : decode c_S_keepIfBetter 26 = .ok (.iload_n 2, 1) := by decide +kernel
theorem d_S_keepIfBetter_27 : decode c_S_keepIfBetter 27 = .ok (.putfield 42, 3) := by decide +kernel
theorem d_S_keepIfBetter_30 : decode c_S_keepIfBetter 30 = .ok (.aload_n 0, 1) := by decide +kernel
theorem d_S_keepIfBetter_31 : decode c_S_keepIfBetter 31 = .ok (.iload_n 1, 1) := by decide +kernel
theorem d_S_keepIfBetter_32 : decode c_S_keepIfBetter 32 = .ok (.putfield 38, 3) := by decide +kernel
theorem d_S_keepIfBetter_35 : decode c_S_keepIfBetter 35 = .ok (.iconst 0, 1) := by decide +kernel
theorem d_S_keepIfBetter_36 : decode c_S_keepIfBetter 36 = .ok (.istore_n 3, 1) := by decide +kernel
theorem d_S_keepIfBetter_37 : decode c_S_keepIfBetter 37 = .ok (.iload_n 3, 1) := by decide +kernel
theorem d_S_keepIfBetter_38 : decode c_S_keepIfBetter 38 = .ok (.iload_n 1, 1) := by decide +kernel
theorem d_S_keepIfBetter_39 : decode c_S_keepIfBetter 39 = .ok (.if_icmp .ge 33, 3) := by decide +kernel
theorem d_S_keepIfBetter_42 : decode c_S_keepIfBetter 42 = .ok (.aload_n 0, 1) := by decide +kernel
theorem d_S_keepIfBetter_43 : decode c_S_keepIfBetter 43 = .ok (.getfield 28, 3) := by decide +kernel
theorem d_S_keepIfBetter_46 : decode c_S_keepIfBetter 46 = .ok (.iload_n 3, 1) := by decide +kernel
theorem d_S_keepIfBetter_47 : decode c_S_keepIfBetter 47 = .ok (.aload_n 0, 1) := by decide +kernel
theorem d_S_keepIfBetter_48 : decode c_S_keepIfBetter 48 = .ok (.getfield 22, 3) := by decide +kernel
theorem d_S_keepIfBetter_51 : decode c_S_keepIfBetter 51 = .ok (.iload_n 3, 1) := by decide +kernel
theorem d_S_keepIfBetter_52 : decode c_S_keepIfBetter 52 = .ok (.iaload, 1) := by decide +kernel
theorem d_S_keepIfBetter_53 : decode c_S_keepIfBetter 53 = .ok (.iastore, 1) := by decide +kernel
theorem d_S_keepIfBetter_54 : decode c_S_keepIfBetter 54 = .ok (.aload_n 0, 1) := by decide +kernel
theorem d_S_keepIfBetter_55 : decode c_S_keepIfBetter 55 = .ok (.getfield 31, 3) := by decide +kernel
theorem d_S_keepIfBetter_58 : decode c_S_keepIfBetter 58 = .ok (.iload_n 3, 1) := by decide +kernel
theorem d_S_keepIfBetter_59 : decode c_S_keepIfBetter 59 = .ok (.aload_n 0, 1) := by decide +kernel
theorem d_S_keepIfBetter_60 : decode c_S_keepIfBetter 60 = .ok (.getfield 25, 3) := by decide +kernel
theorem d_S_keepIfBetter_63 : decode c_S_keepIfBetter 63 = .ok (.iload_n 3, 1) := by decide +kernel
theorem d_S_keepIfBetter_64 : decode c_S_keepIfBetter 64 = .ok (.iaload, 1) := by decide +kernel
theorem d_S_keepIfBetter_65 : decode c_S_keepIfBetter 65 = .ok (.iastore, 1) := by decide +kernel
theorem d_S_keepIfBetter_66 : decode c_S_keepIfBetter 66 = .ok (.iinc 3 1, 3) := by decide +kernel
theorem d_S_keepIfBetter_69 : decode c_S_keepIfBetter 69 = .ok (.goto (-32), 3) := by decide +kernel
theorem d_S_keepIfBetter_72 : decode c_S_keepIfBetter 72 = .ok (.return_, 1) := by decide +kernel
