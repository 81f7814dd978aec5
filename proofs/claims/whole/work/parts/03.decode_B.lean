theorem d_B_init_0 : decode c_B_init 0 = .ok (.aload_n 0, 1) := by decide +kernel
theorem d_B_init_1 : decode c_B_init 1 = .ok (.invokespecial 3, 3) := by decide +kernel
theorem d_B_init_4 : decode c_B_init 4 = .ok (.aload_n 0, 1) := by decide +kernel
theorem d_B_init_5 : decode c_B_init 5 = .ok (.bipush 12, 2) := by decide +kernel
theorem d_B_init_7 : decode c_B_init 7 = .ok (.newarray .long, 2) := by decide +kernel
theorem d_B_init_9 : decode c_B_init 9 = .ok (.putfield 9, 3) := by decide +kernel
theorem d_B_init_12 : decode c_B_init 12 = .ok (.aload_n 0, 1) := by decide +kernel
theorem d_B_init_13 : decode c_B_init 13 = .ok (.bipush 12, 2) := by decide +kernel
theorem d_B_init_15 : decode c_B_init 15 = .ok (.newarray .long, 2) := by decide +kernel
theorem d_B_init_17 : decode c_B_init 17 = .ok (.putfield 15, 3) := by decide +kernel
theorem d_B_init_20 : decode c_B_init 20 = .ok (.aload_n 0, 1) := by decide +kernel
theorem d_B_init_21 : decode c_B_init 21 = .ok (.bipush 10, 2) := by decide +kernel
theorem d_B_init_23 : decode c_B_init 23 = .ok (.newarray .long, 2) := by decide +kernel
theorem d_B_init_25 : decode c_B_init 25 = .ok (.putfield 18, 3) := by decide +kernel
theorem d_B_init_28 : decode c_B_init 28 = .ok (.aload_n 0, 1) := by decide +kernel
theorem d_B_init_29 : decode c_B_init 29 = .ok (.bipush 10, 2) := by decide +kernel
theorem d_B_init_31 : decode c_B_init 31 = .ok (.newarray .long, 2) := by decide +kernel
theorem d_B_init_33 : decode c_B_init 33 = .ok (.putfield 21, 3) := by decide +kernel
theorem d_B_init_36 : decode c_B_init 36 = .ok (.aload_n 0, 1) := by decide +kernel
theorem d_B_init_37 : decode c_B_init 37 = .ok (.bipush 10, 2) := by decide +kernel
theorem d_B_init_39 : decode c_B_init 39 = .ok (.newarray .long, 2) := by decide +kernel
theorem d_B_init_41 : decode c_B_init 41 = .ok (.putfield 24, 3) := by decide +kernel
theorem d_B_init_44 : decode c_B_init 44 = .ok (.aload_n 0, 1) := by decide +kernel
theorem d_B_init_45 : decode c_B_init 45 = .ok (.sipush 200, 3) := by decide +kernel
theorem d_B_init_48 : decode c_B_init 48 = .ok (.putfield 27, 3) := by decide +kernel
theorem d_B_init_51 : decode c_B_init 51 = .ok (.return_, 1) := by decide +kernel
theorem d_B_addCorner_0 : decode c_B_addCorner 0 = .ok (.aload_n 0, 1) := by decide +kernel
theorem d_B_addCorner_1 : decode c_B_addCorner 1 = .ok (.getfield 31, 3) := by decide +kernel
theorem d_B_addCorner_4 : decode c_B_addCorner 4 = .ok (.bipush 12, 2) := by decide +kernel
theorem d_B_addCorner_6 : decode c_B_addCorner 6 = .ok (.if_icmp .lt 5, 3) := by decide +kernel
theorem d_B_addCorner_9 : decode c_B_addCorner 9 = .ok (.iconst 0, 1) := by decide +kernel
theorem d_B_addCorner_10 : decode c_B_addCorner 10 = .ok (.ireturn, 1) := by decide +kernel
theorem d_B_addCorner_11 : decode c_B_addCorner 11 = .ok (.aload_n 0, 1) := by decide +kernel
theorem d_B_addCorner_12 : decode c_B_addCorner 12 = .ok (.aload_n 0, 1) := by decide +kernel
theorem d_B_addCorner_13 : decode c_B_addCorner 13 = .ok (.getfield 31, 3) := by decide +kernel
theorem d_B_addCorner_16 : decode c_B_addCorner 16 = .ok (.ifCond .ne 7, 3) := by decide +kernel
theorem d_B_addCorner_19 : decode c_B_addCorner 19 = .ok (.lload_n 1, 1) := by decide +kernel
theorem d_B_addCorner_20 : decode c_B_addCorner 20 = .ok (.goto 11, 3) := by decide +kernel
theorem d_B_addCorner_23 : decode c_B_addCorner 23 = .ok (.aload_n 0, 1) := by decide +kernel
theorem d_B_addCorner_24 : decode c_B_addCorner 24 = .ok (.getfield 34, 3) := by decide +kernel
theorem d_B_addCorner_27 : decode c_B_addCorner 27 = .ok (.lload_n 1, 1) := by decide +kernel
theorem d_B_addCorner_28 : decode c_B_addCorner 28 = .ok (.invokestatic 38, 3) := by decide +kernel
theorem d_B_addCorner_31 : decode c_B_addCorner 31 = .ok (.putfield 34, 3) := by decide +kernel
theorem d_B_addCorner_34 : decode c_B_addCorner 34 = .ok (.aload_n 0, 1) := by decide +kernel
theorem d_B_addCorner_35 : decode c_B_addCorner 35 = .ok (.aload_n 0, 1) := by decide +kernel
theorem d_B_addCorner_36 : decode c_B_addCorner 36 = .ok (.getfield 31, 3) := by decide +kernel
theorem d_B_addCorner_39 : decode c_B_addCorner 39 = .ok (.ifCond .ne 7, 3) := by decide +kernel
theorem d_B_addCorner_42 : decode c_B_addCorner 42 = .ok (.lload_n 3, 1) := by decide +kernel
theorem d_B_addCorner_43 : decode c_B_addCorner 43 = .ok (.goto 11, 3) := by decide +kernel
theorem d_B_addCorner_46 : decode c_B_addCorner 46 = .ok (.aload_n 0, 1) := by decide +kernel
theorem d_B_addCorner_47 : decode c_B_addCorner 47 = .ok (.getfield 44, 3) := by decide +kernel
theorem d_B_addCorner_50 : decode c_B_addCorner 50 = .ok (.lload_n 3, 1) := by decide +kernel
theorem d_B_addCorner_51 : decode c_B_addCorner 51 = .ok (.invokestatic 38, 3) := by decide +kernel
theorem d_B_addCorner_54 : decode c_B_addCorner 54 = .ok (.putfield 44, 3) := by decide +kernel
theorem d_B_addCorner_57 : decode c_B_addCorner 57 = .ok (.aload_n 0, 1) := by decide +kernel
theorem d_B_addCorner_58 : decode c_B_addCorner 58 = .ok (.aload_n 0, 1) := by decide +kernel
theorem d_B_addCorner_59 : decode c_B_addCorner 59 = .ok (.getfield 31, 3) := by decide +kernel
theorem d_B_addCorner_62 : decode c_B_addCorner 62 = .ok (.ifCond .ne 7, 3) := by decide +kernel
theorem d_B_addCorner_65 : decode c_B_addCorner 65 = .ok (.lload_n 1, 1) := by decide +kernel
theorem d_B_addCorner_66 : decode c_B_addCorner 66 = .ok (.goto 11, 3) := by decide +kernel
theorem d_B_addCorner_69 : decode c_B_addCorner 69 = .ok (.aload_n 0, 1) := by decide +kernel
theorem d_B_addCorner_70 : decode c_B_addCorner 70 = .ok (.getfield 47, 3) := by decide +kernel
theorem d_B_addCorner_73 : decode c_B_addCorner 73 = .ok (.lload_n 1, 1) := by decide +kernel
theorem d_B_addCorner_74 : decode c_B_addCorner 74 = .ok (.invokestatic 50, 3) := by decide +kernel
theorem d_B_addCorner_77 : decode c_B_addCorner 77 = .ok (.putfield 47, 3) := by decide +kernel
theorem d_B_addCorner_80 : decode c_B_addCorner 80 = .ok (.aload_n 0, 1) := by decide +kernel
theorem d_B_addCorner_81 : decode c_B_addCorner 81 = .ok (.aload_n 0, 1) := by decide +kernel
theorem d_B_addCorner_82 : decode c_B_addCorner 82 = .ok (.getfield 31, 3) := by decide +kernel
theorem d_B_addCorner_85 : decode c_B_addCorner 85 = .ok (.ifCond .ne 7, 3) := by decide +kernel
theorem d_B_addCorner_88 : decode c_B_addCorner 88 = .ok (.lload_n 3, 1) := by decide +kernel
theorem d_B_addCorner_89 : decode c_B_addCorner 89 = .ok (.goto 11, 3) := by decide +kernel
theorem d_B_addCorner_92 : decode c_B_addCorner 92 = .ok (.aload_n 0, 1) := by decide +kernel
theorem d_B_addCorner_93 : decode c_B_addCorner 93 = .ok (.getfield 53, 3) := by decide +kernel
theorem d_B_addCorner_96 : decode c_B_addCorner 96 = .ok (.lload_n 3, 1) := by decide +kernel
theorem d_B_addCorner_97 : decode c_B_addCorner 97 = .ok (.invokestatic 50, 3) := by decide +kernel
theorem d_B_addCorner_100 : decode c_B_addCorner 100 = .ok (.putfield 53, 3) := by decide +kernel
theorem d_B_addCorner_103 : decode c_B_addCorner 103 = .ok (.aload_n 0, 1) := by decide +kernel
theorem d_B_addCorner_104 : decode c_B_addCorner 104 = .ok (.getfield 9, 3) := by decide +kernel
theorem d_B_addCorner_107 : decode c_B_addCorner 107 = .ok (.aload_n 0, 1) := by decide +kernel
theorem d_B_addCorner_108 : decode c_B_addCorner 108 = .ok (.getfield 31, 3) := by decide +kernel
theorem d_B_addCorner_111 : decode c_B_addCorner 111 = .ok (.lload_n 1, 1) := by decide +kernel
theorem d_B_addCorner_112 : decode c_B_addCorner 112 = .ok (.lastore, 1) := by decide +kernel
theorem d_B_addCorner_113 : decode c_B_addCorner 113 = .ok (.aload_n 0, 1) := by decide +kernel
theorem d_B_addCorner_114 : decode c_B_addCorner 114 = .ok (.getfield 15, 3) := by decide +kernel
theorem d_B_addCorner_117 : decode c_B_addCorner 117 = .ok (.aload_n 0, 1) := by decide +kernel
theorem d_B_addCorner_118 : decode c_B_addCorner 118 = .ok (.getfield 31, 3) := by decide +kernel
theorem d_B_addCorner_121 : decode c_B_addCorner 121 = .ok (.lload_n 3, 1) := by decide +kernel
theorem d_B_addCorner_122 : decode c_B_addCorner 122 = .ok (.lastore, 1) := by decide +kernel
theorem d_B_addCorner_123 : decode c_B_addCorner 123 = .ok (.aload_n 0, 1) := by decide +kernel
theorem d_B_addCorner_124 : decode c_B_addCorner 124 = .ok (.dup, 1) := by decide +kernel
theorem d_B_addCorner_125 : decode c_B_addCorner 125 = .ok (.getfield 31, 3) := by decide +kernel
theorem d_B_addCorner_128 : decode c_B_addCorner 128 = .ok (.iconst 1, 1) := by decide +kernel
theorem d_B_addCorner_129 : decode c_B_addCorner 129 = .ok (.iadd, 1) := by decide +kernel
theorem d_B_addCorner_130 : decode c_B_addCorner 130 = .ok (.putfield 31, 3) := by decide +kernel
theorem d_B_addCorner_133 : decode c_B_addCorner 133 = .ok (.iconst 1, 1) := by decide +kernel
theorem d_B_addCorner_134 : decode c_B_addCorner 134 = .ok (.ireturn, 1) := by decide +kernel
theorem d_B_addPart_0 : decode c_B_addPart 0 = .ok (.aload_n 0, 1) := by decide +kernel
theorem d_B_addPart_1 : decode c_B_addPart 1 = .ok (.getfield 56, 3) := by decide +kernel
theorem d_B_addPart_4 : decode c_B_addPart 4 = .ok (.bipush 10, 2) := by decide +kernel
theorem d_B_addPart_6 : decode c_B_addPart 6 = .ok (.if_icmp .lt 5, 3) := by decide +kernel
theorem d_B_addPart_9 : decode c_B_addPart 9 = .ok (.iconst 0, 1) := by decide +kernel
theorem d_B_addPart_10 : decode c_B_addPart 10 = .ok (.ireturn, 1) := by decide +kernel
theorem d_B_addPart_11 : decode c_B_addPart 11 = .ok (.aload_n 0, 1) := by decide +kernel
theorem d_B_addPart_12 : decode c_B_addPart 12 = .ok (.getfield 18, 3) := by decide +kernel
theorem d_B_addPart_15 : decode c_B_addPart 15 = .ok (.aload_n 0, 1) := by decide +kernel
theorem d_B_addPart_16 : decode c_B_addPart 16 = .ok (.getfield 56, 3) := by decide +kernel
theorem d_B_addPart_19 : decode c_B_addPart 19 = .ok (.lload_n 1, 1) := by decide +kernel
theorem d_B_addPart_20 : decode c_B_addPart 20 = .ok (.lastore, 1) := by decide +kernel
theorem d_B_addPart_21 : decode c_B_addPart 21 = .ok (.aload_n 0, 1) := by decide +kernel
theorem d_B_addPart_22 : decode c_B_addPart 22 = .ok (.getfield 21, 3) := by decide +kernel
theorem d_B_addPart_25 : decode c_B_addPart 25 = .ok (.aload_n 0, 1) := by decide +kernel
theorem d_B_addPart_26 : decode c_B_addPart 26 = .ok (.getfield 56, 3) := by decide +kernel
theorem d_B_addPart_29 : decode c_B_addPart 29 = .ok (.lload_n 3, 1) := by decide +kernel
theorem d_B_addPart_30 : decode c_B_addPart 30 = .ok (.lastore, 1) := by decide +kernel
theorem d_B_addPart_31 : decode c_B_addPart 31 = .ok (.aload_n 0, 1) := by decide +kernel
theorem d_B_addPart_32 : decode c_B_addPart 32 = .ok (.getfield 24, 3) := by decide +kernel
theorem d_B_addPart_35 : decode c_B_addPart 35 = .ok (.aload_n 0, 1) := by decide +kernel
theorem d_B_addPart_36 : decode c_B_addPart 36 = .ok (.getfield 56, 3) := by decide +kernel
theorem d_B_addPart_39 : decode c_B_addPart 39 = .ok (.lload 5, 2) := by decide +kernel
theorem d_B_addPart_41 : decode c_B_addPart 41 = .ok (.lastore, 1) := by decide +kernel
theorem d_B_addPart_42 : decode c_B_addPart 42 = .ok (.aload_n 0, 1) := by decide +kernel
theorem d_B_addPart_43 : decode c_B_addPart 43 = .ok (.dup, 1) := by decide +kernel
theorem d_B_addPart_44 : decode c_B_addPart 44 = .ok (.getfield 56, 3) := by decide +kernel
theorem d_B_addPart_47 : decode c_B_addPart 47 = .ok (.iconst 1, 1) := by decide +kernel
theorem d_B_addPart_48 : decode c_B_addPart 48 = .ok (.iadd, 1) := by decide +kernel
theorem d_B_addPart_49 : decode c_B_addPart 49 = .ok (.putfield 56, 3) := by decide +kernel
theorem d_B_addPart_52 : decode c_B_addPart 52 = .ok (.iconst 1, 1) := by decide +kernel
theorem d_B_addPart_53 : decode c_B_addPart 53 = .ok (.ireturn, 1) := by decide +kernel
theorem d_B_hasArea_0 : decode c_B_hasArea 0 = .ok (.aload_n 0, 1) := by decide +kernel
theorem d_B_hasArea_1 : decode c_B_hasArea 1 = .ok (.getfield 47, 3) := by decide +kernel
theorem d_B_hasArea_4 : decode c_B_hasArea 4 = .ok (.aload_n 0, 1) := by decide +kernel
theorem d_B_hasArea_5 : decode c_B_hasArea 5 = .ok (.getfield 34, 3) := by decide +kernel
theorem d_B_hasArea_8 : decode c_B_hasArea 8 = .ok (.lcmp, 1) := by decide +kernel
theorem d_B_hasArea_9 : decode c_B_hasArea 9 = .ok (.ifCond .le 19, 3) := by decide +kernel
theorem d_B_hasArea_12 : decode c_B_hasArea 12 = .ok (.aload_n 0, 1) := by decide +kernel
theorem d_B_hasArea_13 : decode c_B_hasArea 13 = .ok (.getfield 53, 3) := by decide +kernel
theorem d_B_hasArea_16 : decode c_B_hasArea 16 = .ok (.aload_n 0, 1) := by decide +kernel
theorem d_B_hasArea_17 : decode c_B_hasArea 17 = .ok (.getfield 44, 3) := by decide +kernel
theorem d_B_hasArea_20 : decode c_B_hasArea 20 = .ok (.lcmp, 1) := by decide +kernel
theorem d_B_hasArea_21 : decode c_B_hasArea 21 = .ok (.ifCond .le 7, 3) := by decide +kernel
theorem d_B_hasArea_24 : decode c_B_hasArea 24 = .ok (.iconst 1, 1) := by decide +kernel
theorem d_B_hasArea_25 : decode c_B_hasArea 25 = .ok (.goto 4, 3) := by decide +kernel
theorem d_B_hasArea_28 : decode c_B_hasArea 28 = .ok (.iconst 0, 1) := by decide +kernel
theorem d_B_hasArea_29 : decode c_B_hasArea 29 = .ok (.ireturn, 1) := by decide +kernel
theorem d_B_wide_0 : decode c_B_wide 0 = .ok (.iload_n 1, 1) := by decide +kernel
theorem d_B_wide_1 : decode c_B_wide 1 = .ok (.ifCond .ne 15, 3) := by decide +kernel
theorem d_B_wide_4 : decode c_B_wide 4 = .ok (.aload_n 0, 1) := by decide +kernel
theorem d_B_wide_5 : decode c_B_wide 5 = .ok (.getfield 47, 3) := by decide +kernel
theorem d_B_wide_8 : decode c_B_wide 8 = .ok (.aload_n 0, 1) := by decide +kernel
theorem d_B_wide_9 : decode c_B_wide 9 = .ok (.getfield 34, 3) := by decide +kernel
theorem d_B_wide_12 : decode c_B_wide 12 = .ok (.lsub, 1) := by decide +kernel
theorem d_B_wide_13 : decode c_B_wide 13 = .ok (.goto 12, 3) := by decide +kernel
theorem d_B_wide_16 : decode c_B_wide 16 = .ok (.aload_n 0, 1) := by decide +kernel
theorem d_B_wide_17 : decode c_B_wide 17 = .ok (.getfield 53, 3) := by decide +kernel
theorem d_B_wide_20 : decode c_B_wide 20 = .ok (.aload_n 0, 1) := by decide +kernel
theorem d_B_wide_21 : decode c_B_wide 21 = .ok (.getfield 44, 3) := by decide +kernel
theorem d_B_wide_24 : decode c_B_wide 24 = .ok (.lsub, 1) := by decide +kernel
theorem d_B_wide_25 : decode c_B_wide 25 = .ok (.lreturn, 1) := by decide +kernel
theorem d_B_high_0 : decode c_B_high 0 = .ok (.iload_n 1, 1) := by decide +kernel
theorem d_B_high_1 : decode c_B_high 1 = .ok (.ifCond .ne 15, 3) := by decide +kernel
theorem d_B_high_4 : decode c_B_high 4 = .ok (.aload_n 0, 1) := by decide +kernel
theorem d_B_high_5 : decode c_B_high 5 = .ok (.getfield 53, 3) := by decide +kernel
theorem d_B_high_8 : decode c_B_high 8 = .ok (.aload_n 0, 1) := by decide +kernel
theorem d_B_high_9 : decode c_B_high 9 = .ok (.getfield 44, 3) := by decide +kernel
theorem d_B_high_12 : decode c_B_high 12 = .ok (.lsub, 1) := by decide +kernel
theorem d_B_high_13 : decode c_B_high 13 = .ok (.goto 12, 3) := by decide +kernel
theorem d_B_high_16 : decode c_B_high 16 = .ok (.aload_n 0, 1) := by decide +kernel
theorem d_B_high_17 : decode c_B_high 17 = .ok (.getfield 47, 3) := by decide +kernel
theorem d_B_high_20 : decode c_B_high 20 = .ok (.aload_n 0, 1) := by decide +kernel
theorem d_B_high_21 : decode c_B_high 21 = .ok (.getfield 34, 3) := by decide +kernel
theorem d_B_high_24 : decode c_B_high 24 = .ok (.lsub, 1) := by decide +kernel
theorem d_B_high_25 : decode c_B_high 25 = .ok (.lreturn, 1) := by decide +kernel
theorem d_B_hasPartNear_0 : decode c_B_hasPartNear 0 = .ok (.iconst 0, 1) := by decide +kernel
theorem d_B_hasPartNear_1 : decode c_B_hasPartNear 1 = .ok (.istore 6, 2) := by decide +kernel
theorem d_B_hasPartNear_3 : decode c_B_hasPartNear 3 = .ok (.iload 6, 2) := by decide +kernel
theorem d_B_hasPartNear_5 : decode c_B_hasPartNear 5 = .ok (.aload_n 0, 1) := by decide +kernel
theorem d_B_hasPartNear_6 : decode c_B_hasPartNear 6 = .ok (.getfield 56, 3) := by decide +kernel
theorem d_B_hasPartNear_9 : decode c_B_hasPartNear 9 = .ok (.if_icmp .ge 107, 3) := by decide +kernel
theorem d_B_hasPartNear_12 : decode c_B_hasPartNear 12 = .ok (.aload_n 0, 1) := by decide +kernel
theorem d_B_hasPartNear_13 : decode c_B_hasPartNear 13 = .ok (.getfield 18, 3) := by decide +kernel
theorem d_B_hasPartNear_16 : decode c_B_hasPartNear 16 = .ok (.iload 6, 2) := by decide +kernel
theorem d_B_hasPartNear_18 : decode c_B_hasPartNear 18 = .ok (.laload, 1) := by decide +kernel
theorem d_B_hasPartNear_19 : decode c_B_hasPartNear 19 = .ok (.aload_n 0, 1) := by decide +kernel
theorem d_B_hasPartNear_20 : decode c_B_hasPartNear 20 = .ok (.getfield 34, 3) := by decide +kernel
theorem d_B_hasPartNear_23 : decode c_B_hasPartNear 23 = .ok (.lsub, 1) := by decide +kernel
theorem d_B_hasPartNear_24 : decode c_B_hasPartNear 24 = .ok (.lstore 7, 2) := by decide +kernel
theorem d_B_hasPartNear_26 : decode c_B_hasPartNear 26 = .ok (.aload_n 0, 1) := by decide +kernel
theorem d_B_hasPartNear_27 : decode c_B_hasPartNear 27 = .ok (.getfield 21, 3) := by decide +kernel
theorem d_B_hasPartNear_30 : decode c_B_hasPartNear 30 = .ok (.iload 6, 2) := by decide +kernel
theorem d_B_hasPartNear_32 : decode c_B_hasPartNear 32 = .ok (.laload, 1) := by decide +kernel
theorem d_B_hasPartNear_33 : decode c_B_hasPartNear 33 = .ok (.aload_n 0, 1) := by decide +kernel
theorem d_B_hasPartNear_34 : decode c_B_hasPartNear 34 = .ok (.getfield 44, 3) := by decide +kernel
theorem d_B_hasPartNear_37 : decode c_B_hasPartNear 37 = .ok (.lsub, 1) := by decide +kernel
theorem d_B_hasPartNear_38 : decode c_B_hasPartNear 38 = .ok (.lstore 9, 2) := by decide +kernel
theorem d_B_hasPartNear_40 : decode c_B_hasPartNear 40 = .ok (.lload_n 1, 1) := by decide +kernel
theorem d_B_hasPartNear_41 : decode c_B_hasPartNear 41 = .ok (.iload 5, 2) := by decide +kernel
theorem d_B_hasPartNear_43 : decode c_B_hasPartNear 43 = .ok (.ifCond .ne 8, 3) := by decide +kernel
theorem d_B_hasPartNear_46 : decode c_B_hasPartNear 46 = .ok (.lload 7, 2) := by decide +kernel
theorem d_B_hasPartNear_48 : decode c_B_hasPartNear 48 = .ok (.goto 11, 3) := by decide +kernel
theorem d_B_hasPartNear_51 : decode c_B_hasPartNear 51 = .ok (.aload_n 0, 1) := by decide +kernel
theorem d_B_hasPartNear_52 : decode c_B_hasPartNear 52 = .ok (.iconst 0, 1) := by decide +kernel
theorem d_B_hasPartNear_53 : decode c_B_hasPartNear 53 = .ok (.invokevirtual 59, 3) := by decide +kernel
theorem d_B_hasPartNear_56 : decode c_B_hasPartNear 56 = .ok (.lload 9, 2) := by decide +kernel
theorem d_B_hasPartNear_58 : decode c_B_hasPartNear 58 = .ok (.lsub, 1) := by decide +kernel
theorem d_B_hasPartNear_59 : decode c_B_hasPartNear 59 = .ok (.lsub, 1) := by decide +kernel
theorem d_B_hasPartNear_60 : decode c_B_hasPartNear 60 = .ok (.lstore 11, 2) := by decide +kernel
theorem d_B_hasPartNear_62 : decode c_B_hasPartNear 62 = .ok (.lload_n 3, 1) := by decide +kernel
theorem d_B_hasPartNear_63 : decode c_B_hasPartNear 63 = .ok (.iload 5, 2) := by decide +kernel
theorem d_B_hasPartNear_65 : decode c_B_hasPartNear 65 = .ok (.ifCond .ne 8, 3) := by decide +kernel
theorem d_B_hasPartNear_68 : decode c_B_hasPartNear 68 = .ok (.lload 9, 2) := by decide +kernel
theorem d_B_hasPartNear_70 : decode c_B_hasPartNear 70 = .ok (.goto 5, 3) := by decide +kernel
theorem d_B_hasPartNear_73 : decode c_B_hasPartNear 73 = .ok (.lload 7, 2) := by decide +kernel
theorem d_B_hasPartNear_75 : decode c_B_hasPartNear 75 = .ok (.lsub, 1) := by decide +kernel
theorem d_B_hasPartNear_76 : decode c_B_hasPartNear 76 = .ok (.lstore 13, 2) := by decide +kernel
theorem d_B_hasPartNear_78 : decode c_B_hasPartNear 78 = .ok (.lload 11, 2) := by decide +kernel
theorem d_B_hasPartNear_80 : decode c_B_hasPartNear 80 = .ok (.lload 11, 2) := by decide +kernel
theorem d_B_hasPartNear_82 : decode c_B_hasPartNear 82 = .ok (.lmul, 1) := by decide +kernel
theorem d_B_hasPartNear_83 : decode c_B_hasPartNear 83 = .ok (.lload 13, 2) := by decide +kernel
theorem d_B_hasPartNear_85 : decode c_B_hasPartNear 85 = .ok (.lload 13, 2) := by decide +kernel
theorem d_B_hasPartNear_87 : decode c_B_hasPartNear 87 = .ok (.lmul, 1) := by decide +kernel
theorem d_B_hasPartNear_88 : decode c_B_hasPartNear 88 = .ok (.ladd, 1) := by decide +kernel
theorem d_B_hasPartNear_89 : decode c_B_hasPartNear 89 = .ok (.aload_n 0, 1) := by decide +kernel
theorem d_B_hasPartNear_90 : decode c_B_hasPartNear 90 = .ok (.getfield 24, 3) := by decide +kernel
theorem d_B_hasPartNear_93 : decode c_B_hasPartNear 93 = .ok (.iload 6, 2) := by decide +kernel
theorem d_B_hasPartNear_95 : decode c_B_hasPartNear 95 = .ok (.laload, 1) := by decide +kernel
theorem d_B_hasPartNear_96 : decode c_B_hasPartNear 96 = .ok (.aload_n 0, 1) := by decide +kernel
theorem d_B_hasPartNear_97 : decode c_B_hasPartNear 97 = .ok (.getfield 24, 3) := by decide +kernel
theorem d_B_hasPartNear_100 : decode c_B_hasPartNear 100 = .ok (.iload 6, 2) := by decide +kernel
theorem d_B_hasPartNear_102 : decode c_B_hasPartNear 102 = .ok (.laload, 1) := by decide +kernel
theorem d_B_hasPartNear_103 : decode c_B_hasPartNear 103 = .ok (.lmul, 1) := by decide +kernel
theorem d_B_hasPartNear_104 : decode c_B_hasPartNear 104 = .ok (.lcmp, 1) := by decide +kernel
theorem d_B_hasPartNear_105 : decode c_B_hasPartNear 105 = .ok (.ifCond .ge 5, 3) := by decide +kernel
theorem d_B_hasPartNear_108 : decode c_B_hasPartNear 108 = .ok (.iconst 1, 1) := by decide +kernel
theorem d_B_hasPartNear_109 : decode c_B_hasPartNear 109 = .ok (.ireturn, 1) := by decide +kernel
theorem d_B_hasPartNear_110 : decode c_B_hasPartNear 110 = .ok (.iinc 6 1, 3) := by decide +kernel
theorem d_B_hasPartNear_113 : decode c_B_hasPartNear 113 = .ok (.goto (-110), 3) := by decide +kernel
theorem d_B_hasPartNear_116 : decode c_B_hasPartNear 116 = .ok (.iconst 0, 1) := by decide +kernel
theorem d_B_hasPartNear_117 : decode c_B_hasPartNear 117 = .ok (.ireturn, 1) := by decide +kernel
theorem d_B_twiceArea_0 : decode c_B_twiceArea 0 = .ok (.lconst 0, 1) := by decide +kernel
theorem d_B_twiceArea_1 : decode c_B_twiceArea 1 = .ok (.lstore_n 1, 1) := by decide +kernel
theorem d_B_twiceArea_2 : decode c_B_twiceArea 2 = .ok (.iconst 0, 1) := by decide +kernel
theorem d_B_twiceArea_3 : decode c_B_twiceArea 3 = .ok (.istore_n 3, 1) := by decide +kernel
theorem d_B_twiceArea_4 : decode c_B_twiceArea 4 = .ok (.iload_n 3, 1) := by decide +kernel
theorem d_B_twiceArea_5 : decode c_B_twiceArea 5 = .ok (.aload_n 0, 1) := by decide +kernel
theorem d_B_twiceArea_6 : decode c_B_twiceArea 6 = .ok (.getfield 31, 3) := by decide +kernel
theorem d_B_twiceArea_9 : decode c_B_twiceArea 9 = .ok (.if_icmp .ge 60, 3) := by decide +kernel
theorem d_B_twiceArea_12 : decode c_B_twiceArea 12 = .ok (.iload_n 3, 1) := by decide +kernel
theorem d_B_twiceArea_13 : decode c_B_twiceArea 13 = .ok (.iconst 1, 1) := by decide +kernel
theorem d_B_twiceArea_14 : decode c_B_twiceArea 14 = .ok (.iadd, 1) := by decide +kernel
theorem d_B_twiceArea_15 : decode c_B_twiceArea 15 = .ok (.aload_n 0, 1) := by decide +kernel
theorem d_B_twiceArea_16 : decode c_B_twiceArea 16 = .ok (.getfield 31, 3) := by decide +kernel
theorem d_B_twiceArea_19 : decode c_B_twiceArea 19 = .ok (.if_icmp .ge 9, 3) := by decide +kernel
theorem d_B_twiceArea_22 : decode c_B_twiceArea 22 = .ok (.iload_n 3, 1) := by decide +kernel
theorem d_B_twiceArea_23 : decode c_B_twiceArea 23 = .ok (.iconst 1, 1) := by decide +kernel
theorem d_B_twiceArea_24 : decode c_B_twiceArea 24 = .ok (.iadd, 1) := by decide +kernel
theorem d_B_twiceArea_25 : decode c_B_twiceArea 25 = .ok (.goto 4, 3) := by decide +kernel
theorem d_B_twiceArea_28 : decode c_B_twiceArea 28 = .ok (.iconst 0, 1) := by decide +kernel
theorem d_B_twiceArea_29 : decode c_B_twiceArea 29 = .ok (.istore 4, 2) := by decide +kernel
theorem d_B_twiceArea_31 : decode c_B_twiceArea 31 = .ok (.lload_n 1, 1) := by decide +kernel
theorem d_B_twiceArea_32 : decode c_B_twiceArea 32 = .ok (.aload_n 0, 1) := by decide +kernel
theorem d_B_twiceArea_33 : decode c_B_twiceArea 33 = .ok (.getfield 9, 3) := by decide +kernel
theorem d_B_twiceArea_36 : decode c_B_twiceArea 36 = .ok (.iload_n 3, 1) := by decide +kernel
theorem d_B_twiceArea_37 : decode c_B_twiceArea 37 = .ok (.laload, 1) := by decide +kernel
theorem d_B_twiceArea_38 : decode c_B_twiceArea 38 = .ok (.aload_n 0, 1) := by decide +kernel
theorem d_B_twiceArea_39 : decode c_B_twiceArea 39 = .ok (.getfield 15, 3) := by decide +kernel
theorem d_B_twiceArea_42 : decode c_B_twiceArea 42 = .ok (.iload 4, 2) := by decide +kernel
theorem d_B_twiceArea_44 : decode c_B_twiceArea 44 = .ok (.laload, 1) := by decide +kernel
theorem d_B_twiceArea_45 : decode c_B_twiceArea 45 = .ok (.lmul, 1) := by decide +kernel
theorem d_B_twiceArea_46 : decode c_B_twiceArea 46 = .ok (.aload_n 0, 1) := by decide +kernel
theorem d_B_twiceArea_47 : decode c_B_twiceArea 47 = .ok (.getfield 9, 3) := by decide +kernel
theorem d_B_twiceArea_50 : decode c_B_twiceArea 50 = .ok (.iload 4, 2) := by decide +kernel
theorem d_B_twiceArea_52 : decode c_B_twiceArea 52 = .ok (.laload, 1) := by decide +kernel
theorem d_B_twiceArea_53 : decode c_B_twiceArea 53 = .ok (.aload_n 0, 1) := by decide +kernel
theorem d_B_twiceArea_54 : decode c_B_twiceArea 54 = .ok (.getfield 15, 3) := by decide +kernel
theorem d_B_twiceArea_57 : decode c_B_twiceArea 57 = .ok (.iload_n 3, 1) := by decide +kernel
theorem d_B_twiceArea_58 : decode c_B_twiceArea 58 = .ok (.laload, 1) := by decide +kernel
theorem d_B_twiceArea_59 : decode c_B_twiceArea 59 = .ok (.lmul, 1) := by decide +kernel
theorem d_B_twiceArea_60 : decode c_B_twiceArea 60 = .ok (.lsub, 1) := by decide +kernel
theorem d_B_twiceArea_61 : decode c_B_twiceArea 61 = .ok (.ladd, 1) := by decide +kernel
theorem d_B_twiceArea_62 : decode c_B_twiceArea 62 = .ok (.lstore_n 1, 1) := by decide +kernel
theorem d_B_twiceArea_63 : decode c_B_twiceArea 63 = .ok (.iinc 3 1, 3) := by decide +kernel
theorem d_B_twiceArea_66 : decode c_B_twiceArea 66 = .ok (.goto (-62), 3) := by decide +kernel
theorem d_B_twiceArea_69 : decode c_B_twiceArea 69 = .ok (.lload_n 1, 1) := by decide +kernel
theorem d_B_twiceArea_70 : decode c_B_twiceArea 70 = .ok (.invokestatic 63, 3) := by decide +kernel
theorem d_B_twiceArea_73 : decode c_B_twiceArea 73 = .ok (.lreturn, 1) := by decide +kernel
