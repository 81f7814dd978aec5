theorem d_M_fitsAlong_0 : decode c_M_fitsAlong 0 = .ok (.iload_n 1, 1) := by decide +kernel
theorem d_M_fitsAlong_1 : decode c_M_fitsAlong 1 = .ok (.iconst 2, 1) := by decide +kernel
theorem d_M_fitsAlong_2 : decode c_M_fitsAlong 2 = .ok (.idiv, 1) := by decide +kernel
theorem d_M_fitsAlong_3 : decode c_M_fitsAlong 3 = .ok (.istore_n 3, 1) := by decide +kernel
theorem d_M_fitsAlong_4 : decode c_M_fitsAlong 4 = .ok (.iload_n 3, 1) := by decide +kernel
theorem d_M_fitsAlong_5 : decode c_M_fitsAlong 5 = .ok (.iload_n 2, 1) := by decide +kernel
theorem d_M_fitsAlong_6 : decode c_M_fitsAlong 6 = .ok (.if_icmp .ge 33, 3) := by decide +kernel
theorem d_M_fitsAlong_9 : decode c_M_fitsAlong 9 = .ok (.iload_n 3, 1) := by decide +kernel
theorem d_M_fitsAlong_10 : decode c_M_fitsAlong 10 = .ok (.aload_n 0, 1) := by decide +kernel
theorem d_M_fitsAlong_11 : decode c_M_fitsAlong 11 = .ok (.getfield 73, 3) := by decide +kernel
theorem d_M_fitsAlong_14 : decode c_M_fitsAlong 14 = .ok (.if_icmp .ge 25, 3) := by decide +kernel
theorem d_M_fitsAlong_17 : decode c_M_fitsAlong 17 = .ok (.aload_n 0, 1) := by decide +kernel
theorem d_M_fitsAlong_18 : decode c_M_fitsAlong 18 = .ok (.getfield 45, 3) := by decide +kernel
theorem d_M_fitsAlong_21 : decode c_M_fitsAlong 21 = .ok (.iload_n 3, 1) := by decide +kernel
theorem d_M_fitsAlong_22 : decode c_M_fitsAlong 22 = .ok (.laload, 1) := by decide +kernel
theorem d_M_fitsAlong_23 : decode c_M_fitsAlong 23 = .ok (.lconst 0, 1) := by decide +kernel
theorem d_M_fitsAlong_24 : decode c_M_fitsAlong 24 = .ok (.lcmp, 1) := by decide +kernel
theorem d_M_fitsAlong_25 : decode c_M_fitsAlong 25 = .ok (.ifCond .eq 14, 3) := by decide +kernel
theorem d_M_fitsAlong_28 : decode c_M_fitsAlong 28 = .ok (.aload_n 0, 1) := by decide +kernel
theorem d_M_fitsAlong_29 : decode c_M_fitsAlong 29 = .ok (.getfield 48, 3) := by decide +kernel
theorem d_M_fitsAlong_32 : decode c_M_fitsAlong 32 = .ok (.iload_n 3, 1) := by decide +kernel
theorem d_M_fitsAlong_33 : decode c_M_fitsAlong 33 = .ok (.laload, 1) := by decide +kernel
theorem d_M_fitsAlong_34 : decode c_M_fitsAlong 34 = .ok (.lconst 0, 1) := by decide +kernel
theorem d_M_fitsAlong_35 : decode c_M_fitsAlong 35 = .ok (.lcmp, 1) := by decide +kernel
theorem d_M_fitsAlong_36 : decode c_M_fitsAlong 36 = .ok (.ifCond .ne 5, 3) := by decide +kernel
theorem d_M_fitsAlong_39 : decode c_M_fitsAlong 39 = .ok (.iconst 0, 1) := by decide +kernel
theorem d_M_fitsAlong_40 : decode c_M_fitsAlong 40 = .ok (.ireturn, 1) := by decide +kernel
theorem d_M_fitsAlong_41 : decode c_M_fitsAlong 41 = .ok (.aload_n 0, 1) := by decide +kernel
theorem d_M_fitsAlong_42 : decode c_M_fitsAlong 42 = .ok (.getfield 62, 3) := by decide +kernel
theorem d_M_fitsAlong_45 : decode c_M_fitsAlong 45 = .ok (.aload_n 0, 1) := by decide +kernel
theorem d_M_fitsAlong_46 : decode c_M_fitsAlong 46 = .ok (.getfield 29, 3) := by decide +kernel
theorem d_M_fitsAlong_49 : decode c_M_fitsAlong 49 = .ok (.iconst 0, 1) := by decide +kernel
theorem d_M_fitsAlong_50 : decode c_M_fitsAlong 50 = .ok (.laload, 1) := by decide +kernel
theorem d_M_fitsAlong_51 : decode c_M_fitsAlong 51 = .ok (.lsub, 1) := by decide +kernel
theorem d_M_fitsAlong_52 : decode c_M_fitsAlong 52 = .ok (.aload_n 0, 1) := by decide +kernel
theorem d_M_fitsAlong_53 : decode c_M_fitsAlong 53 = .ok (.getfield 29, 3) := by decide +kernel
theorem d_M_fitsAlong_56 : decode c_M_fitsAlong 56 = .ok (.iconst 2, 1) := by decide +kernel
theorem d_M_fitsAlong_57 : decode c_M_fitsAlong 57 = .ok (.laload, 1) := by decide +kernel
theorem d_M_fitsAlong_58 : decode c_M_fitsAlong 58 = .ok (.lsub, 1) := by decide +kernel
theorem d_M_fitsAlong_59 : decode c_M_fitsAlong 59 = .ok (.lstore 4, 2) := by decide +kernel
theorem d_M_fitsAlong_61 : decode c_M_fitsAlong 61 = .ok (.aload_n 0, 1) := by decide +kernel
theorem d_M_fitsAlong_62 : decode c_M_fitsAlong 62 = .ok (.iload_n 1, 1) := by decide +kernel
theorem d_M_fitsAlong_63 : decode c_M_fitsAlong 63 = .ok (.invokevirtual 90, 3) := by decide +kernel
theorem d_M_fitsAlong_66 : decode c_M_fitsAlong 66 = .ok (.lstore 6, 2) := by decide +kernel
theorem d_M_fitsAlong_68 : decode c_M_fitsAlong 68 = .ok (.lload 4, 2) := by decide +kernel
theorem d_M_fitsAlong_70 : decode c_M_fitsAlong 70 = .ok (.lload 6, 2) := by decide +kernel
theorem d_M_fitsAlong_72 : decode c_M_fitsAlong 72 = .ok (.lcmp, 1) := by decide +kernel
theorem d_M_fitsAlong_73 : decode c_M_fitsAlong 73 = .ok (.ifCond .ge 5, 3) := by decide +kernel
theorem d_M_fitsAlong_76 : decode c_M_fitsAlong 76 = .ok (.iconst 0, 1) := by decide +kernel
theorem d_M_fitsAlong_77 : decode c_M_fitsAlong 77 = .ok (.ireturn, 1) := by decide +kernel
theorem d_M_fitsAlong_78 : decode c_M_fitsAlong 78 = .ok (.lload 4, 2) := by decide +kernel
theorem d_M_fitsAlong_80 : decode c_M_fitsAlong 80 = .ok (.aload_n 0, 1) := by decide +kernel
theorem d_M_fitsAlong_81 : decode c_M_fitsAlong 81 = .ok (.getfield 84, 3) := by decide +kernel
theorem d_M_fitsAlong_84 : decode c_M_fitsAlong 84 = .ok (.ladd, 1) := by decide +kernel
theorem d_M_fitsAlong_85 : decode c_M_fitsAlong 85 = .ok (.lload 6, 2) := by decide +kernel
theorem d_M_fitsAlong_87 : decode c_M_fitsAlong 87 = .ok (.aload_n 0, 1) := by decide +kernel
theorem d_M_fitsAlong_88 : decode c_M_fitsAlong 88 = .ok (.getfield 84, 3) := by decide +kernel
theorem d_M_fitsAlong_91 : decode c_M_fitsAlong 91 = .ok (.ladd, 1) := by decide +kernel
theorem d_M_fitsAlong_92 : decode c_M_fitsAlong 92 = .ok (.ldiv, 1) := by decide +kernel
theorem d_M_fitsAlong_93 : decode c_M_fitsAlong 93 = .ok (.lstore 8, 2) := by decide +kernel
theorem d_M_fitsAlong_95 : decode c_M_fitsAlong 95 = .ok (.lload 8, 2) := by decide +kernel
theorem d_M_fitsAlong_97 : decode c_M_fitsAlong 97 = .ok (.ldc2_w 94, 3) := by decide +kernel
theorem d_M_fitsAlong_100 : decode c_M_fitsAlong 100 = .ok (.lcmp, 1) := by decide +kernel
theorem d_M_fitsAlong_101 : decode c_M_fitsAlong 101 = .ok (.ifCond .le 8, 3) := by decide +kernel
theorem d_M_fitsAlong_104 : decode c_M_fitsAlong 104 = .ok (.bipush 20, 2) := by decide +kernel
theorem d_M_fitsAlong_106 : decode c_M_fitsAlong 106 = .ok (.goto 6, 3) := by decide +kernel
theorem d_M_fitsAlong_109 : decode c_M_fitsAlong 109 = .ok (.lload 8, 2) := by decide +kernel
theorem d_M_fitsAlong_111 : decode c_M_fitsAlong 111 = .ok (.l2i, 1) := by decide +kernel
theorem d_M_fitsAlong_112 : decode c_M_fitsAlong 112 = .ok (.ireturn, 1) := by decide +kernel
theorem d_M_rowsOf_0 : decode c_M_rowsOf 0 = .ok (.iconst 0, 1) := by decide +kernel
theorem d_M_rowsOf_1 : decode c_M_rowsOf 1 = .ok (.istore_n 1, 1) := by decide +kernel
theorem d_M_rowsOf_2 : decode c_M_rowsOf 2 = .ok (.iconst 0, 1) := by decide +kernel
theorem d_M_rowsOf_3 : decode c_M_rowsOf 3 = .ok (.istore_n 2, 1) := by decide +kernel
theorem d_M_rowsOf_4 : decode c_M_rowsOf 4 = .ok (.iload_n 2, 1) := by decide +kernel
theorem d_M_rowsOf_5 : decode c_M_rowsOf 5 = .ok (.bipush 8, 2) := by decide +kernel
theorem d_M_rowsOf_7 : decode c_M_rowsOf 7 = .ok (.if_icmp .ge 18, 3) := by decide +kernel
theorem d_M_rowsOf_10 : decode c_M_rowsOf 10 = .ok (.iload_n 1, 1) := by decide +kernel
theorem d_M_rowsOf_11 : decode c_M_rowsOf 11 = .ok (.aload_n 0, 1) := by decide +kernel
theorem d_M_rowsOf_12 : decode c_M_rowsOf 12 = .ok (.getfield 54, 3) := by decide +kernel
theorem d_M_rowsOf_15 : decode c_M_rowsOf 15 = .ok (.iload_n 2, 1) := by decide +kernel
theorem d_M_rowsOf_16 : decode c_M_rowsOf 16 = .ok (.iaload, 1) := by decide +kernel
theorem d_M_rowsOf_17 : decode c_M_rowsOf 17 = .ok (.iadd, 1) := by decide +kernel
theorem d_M_rowsOf_18 : decode c_M_rowsOf 18 = .ok (.istore_n 1, 1) := by decide +kernel
theorem d_M_rowsOf_19 : decode c_M_rowsOf 19 = .ok (.iinc 2 1, 3) := by decide +kernel
theorem d_M_rowsOf_22 : decode c_M_rowsOf 22 = .ok (.goto (-18), 3) := by decide +kernel
theorem d_M_rowsOf_25 : decode c_M_rowsOf 25 = .ok (.iload_n 1, 1) := by decide +kernel
theorem d_M_rowsOf_26 : decode c_M_rowsOf 26 = .ok (.ireturn, 1) := by decide +kernel
theorem d_M_isLow_0 : decode c_M_isLow 0 = .ok (.lconst 0, 1) := by decide +kernel
theorem d_M_isLow_1 : decode c_M_isLow 1 = .ok (.lstore_n 1, 1) := by decide +kernel
theorem d_M_isLow_2 : decode c_M_isLow 2 = .ok (.iconst 0, 1) := by decide +kernel
theorem d_M_isLow_3 : decode c_M_isLow 3 = .ok (.istore_n 3, 1) := by decide +kernel
theorem d_M_isLow_4 : decode c_M_isLow 4 = .ok (.iload_n 3, 1) := by decide +kernel
theorem d_M_isLow_5 : decode c_M_isLow 5 = .ok (.bipush 8, 2) := by decide +kernel
theorem d_M_isLow_7 : decode c_M_isLow 7 = .ok (.if_icmp .ge 30, 3) := by decide +kernel
theorem d_M_isLow_10 : decode c_M_isLow 10 = .ok (.lload_n 1, 1) := by decide +kernel
theorem d_M_isLow_11 : decode c_M_isLow 11 = .ok (.aload_n 0, 1) := by decide +kernel
theorem d_M_isLow_12 : decode c_M_isLow 12 = .ok (.getfield 54, 3) := by decide +kernel
theorem d_M_isLow_15 : decode c_M_isLow 15 = .ok (.iload_n 3, 1) := by decide +kernel
theorem d_M_isLow_16 : decode c_M_isLow 16 = .ok (.iaload, 1) := by decide +kernel
theorem d_M_isLow_17 : decode c_M_isLow 17 = .ok (.i2l, 1) := by decide +kernel
theorem d_M_isLow_18 : decode c_M_isLow 18 = .ok (.aload_n 0, 1) := by decide +kernel
theorem d_M_isLow_19 : decode c_M_isLow 19 = .ok (.iload_n 3, 1) := by decide +kernel
theorem d_M_isLow_20 : decode c_M_isLow 20 = .ok (.invokevirtual 96, 3) := by decide +kernel
theorem d_M_isLow_23 : decode c_M_isLow 23 = .ok (.aload_n 0, 1) := by decide +kernel
theorem d_M_isLow_24 : decode c_M_isLow 24 = .ok (.getfield 84, 3) := by decide +kernel
theorem d_M_isLow_27 : decode c_M_isLow 27 = .ok (.ladd, 1) := by decide +kernel
theorem d_M_isLow_28 : decode c_M_isLow 28 = .ok (.lmul, 1) := by decide +kernel
theorem d_M_isLow_29 : decode c_M_isLow 29 = .ok (.ladd, 1) := by decide +kernel
theorem d_M_isLow_30 : decode c_M_isLow 30 = .ok (.lstore_n 1, 1) := by decide +kernel
theorem d_M_isLow_31 : decode c_M_isLow 31 = .ok (.iinc 3 1, 3) := by decide +kernel
theorem d_M_isLow_34 : decode c_M_isLow 34 = .ok (.goto (-30), 3) := by decide +kernel
theorem d_M_isLow_37 : decode c_M_isLow 37 = .ok (.lload_n 1, 1) := by decide +kernel
theorem d_M_isLow_38 : decode c_M_isLow 38 = .ok (.lconst 0, 1) := by decide +kernel
theorem d_M_isLow_39 : decode c_M_isLow 39 = .ok (.lcmp, 1) := by decide +kernel
theorem d_M_isLow_40 : decode c_M_isLow 40 = .ok (.ifCond .eq 31, 3) := by decide +kernel
theorem d_M_isLow_43 : decode c_M_isLow 43 = .ok (.lload_n 1, 1) := by decide +kernel
theorem d_M_isLow_44 : decode c_M_isLow 44 = .ok (.aload_n 0, 1) := by decide +kernel
theorem d_M_isLow_45 : decode c_M_isLow 45 = .ok (.getfield 84, 3) := by decide +kernel
theorem d_M_isLow_48 : decode c_M_isLow 48 = .ok (.lsub, 1) := by decide +kernel
theorem d_M_isLow_49 : decode c_M_isLow 49 = .ok (.aload_n 0, 1) := by decide +kernel
theorem d_M_isLow_50 : decode c_M_isLow 50 = .ok (.getfield 66, 3) := by decide +kernel
theorem d_M_isLow_53 : decode c_M_isLow 53 = .ok (.aload_n 0, 1) := by decide +kernel
theorem d_M_isLow_54 : decode c_M_isLow 54 = .ok (.getfield 29, 3) := by decide +kernel
theorem d_M_isLow_57 : decode c_M_isLow 57 = .ok (.iconst 1, 1) := by decide +kernel
theorem d_M_isLow_58 : decode c_M_isLow 58 = .ok (.laload, 1) := by decide +kernel
theorem d_M_isLow_59 : decode c_M_isLow 59 = .ok (.lsub, 1) := by decide +kernel
theorem d_M_isLow_60 : decode c_M_isLow 60 = .ok (.aload_n 0, 1) := by decide +kernel
theorem d_M_isLow_61 : decode c_M_isLow 61 = .ok (.getfield 29, 3) := by decide +kernel
theorem d_M_isLow_64 : decode c_M_isLow 64 = .ok (.iconst 3, 1) := by decide +kernel
theorem d_M_isLow_65 : decode c_M_isLow 65 = .ok (.laload, 1) := by decide +kernel
theorem d_M_isLow_66 : decode c_M_isLow 66 = .ok (.lsub, 1) := by decide +kernel
theorem d_M_isLow_67 : decode c_M_isLow 67 = .ok (.lcmp, 1) := by decide +kernel
theorem d_M_isLow_68 : decode c_M_isLow 68 = .ok (.ifCond .gt 7, 3) := by decide +kernel
theorem d_M_isLow_71 : decode c_M_isLow 71 = .ok (.iconst 1, 1) := by decide +kernel
theorem d_M_isLow_72 : decode c_M_isLow 72 = .ok (.goto 4, 3) := by decide +kernel
theorem d_M_isLow_75 : decode c_M_isLow 75 = .ok (.iconst 0, 1) := by decide +kernel
theorem d_M_isLow_76 : decode c_M_isLow 76 = .ok (.ireturn, 1) := by decide +kernel
theorem d_M_copiesOf_0 : decode c_M_copiesOf 0 = .ok (.iconst 0, 1) := by decide +kernel
theorem d_M_copiesOf_1 : decode c_M_copiesOf 1 = .ok (.istore_n 1, 1) := by decide +kernel
theorem d_M_copiesOf_2 : decode c_M_copiesOf 2 = .ok (.iconst 0, 1) := by decide +kernel
theorem d_M_copiesOf_3 : decode c_M_copiesOf 3 = .ok (.istore_n 2, 1) := by decide +kernel
theorem d_M_copiesOf_4 : decode c_M_copiesOf 4 = .ok (.iload_n 2, 1) := by decide +kernel
theorem d_M_copiesOf_5 : decode c_M_copiesOf 5 = .ok (.iconst 4, 1) := by decide +kernel
theorem d_M_copiesOf_6 : decode c_M_copiesOf 6 = .ok (.if_icmp .ge 101, 3) := by decide +kernel
theorem d_M_copiesOf_9 : decode c_M_copiesOf 9 = .ok (.aload_n 0, 1) := by decide +kernel
theorem d_M_copiesOf_10 : decode c_M_copiesOf 10 = .ok (.getfield 20, 3) := by decide +kernel
theorem d_M_copiesOf_13 : decode c_M_copiesOf 13 = .ok (.iload_n 2, 1) := by decide +kernel
theorem d_M_copiesOf_14 : decode c_M_copiesOf 14 = .ok (.iaload, 1) := by decide +kernel
theorem d_M_copiesOf_15 : decode c_M_copiesOf 15 = .ok (.istore_n 3, 1) := by decide +kernel
theorem d_M_copiesOf_16 : decode c_M_copiesOf 16 = .ok (.iconst 0, 1) := by decide +kernel
theorem d_M_copiesOf_17 : decode c_M_copiesOf 17 = .ok (.istore 4, 2) := by decide +kernel
theorem d_M_copiesOf_19 : decode c_M_copiesOf 19 = .ok (.iload 4, 2) := by decide +kernel
theorem d_M_copiesOf_21 : decode c_M_copiesOf 21 = .ok (.iconst 2, 1) := by decide +kernel
theorem d_M_copiesOf_22 : decode c_M_copiesOf 22 = .ok (.if_icmp .ge 79, 3) := by decide +kernel
theorem d_M_copiesOf_25 : decode c_M_copiesOf 25 = .ok (.iconst 2, 1) := by decide +kernel
theorem d_M_copiesOf_26 : decode c_M_copiesOf 26 = .ok (.iload_n 2, 1) := by decide +kernel
theorem d_M_copiesOf_27 : decode c_M_copiesOf 27 = .ok (.imul, 1) := by decide +kernel
theorem d_M_copiesOf_28 : decode c_M_copiesOf 28 = .ok (.iload 4, 2) := by decide +kernel
theorem d_M_copiesOf_30 : decode c_M_copiesOf 30 = .ok (.iadd, 1) := by decide +kernel
theorem d_M_copiesOf_31 : decode c_M_copiesOf 31 = .ok (.istore 5, 2) := by decide +kernel
theorem d_M_copiesOf_33 : decode c_M_copiesOf 33 = .ok (.iconst 0, 1) := by decide +kernel
theorem d_M_copiesOf_34 : decode c_M_copiesOf 34 = .ok (.istore 6, 2) := by decide +kernel
theorem d_M_copiesOf_36 : decode c_M_copiesOf 36 = .ok (.iload 6, 2) := by decide +kernel
theorem d_M_copiesOf_38 : decode c_M_copiesOf 38 = .ok (.aload_n 0, 1) := by decide +kernel
theorem d_M_copiesOf_39 : decode c_M_copiesOf 39 = .ok (.getfield 54, 3) := by decide +kernel
theorem d_M_copiesOf_42 : decode c_M_copiesOf 42 = .ok (.iload 5, 2) := by decide +kernel
theorem d_M_copiesOf_44 : decode c_M_copiesOf 44 = .ok (.iaload, 1) := by decide +kernel
theorem d_M_copiesOf_45 : decode c_M_copiesOf 45 = .ok (.if_icmp .ge 50, 3) := by decide +kernel
theorem d_M_copiesOf_48 : decode c_M_copiesOf 48 = .ok (.aload_n 0, 1) := by decide +kernel
theorem d_M_copiesOf_49 : decode c_M_copiesOf 49 = .ok (.getfield 51, 3) := by decide +kernel
theorem d_M_copiesOf_52 : decode c_M_copiesOf 52 = .ok (.iload 5, 2) := by decide +kernel
theorem d_M_copiesOf_54 : decode c_M_copiesOf 54 = .ok (.iaload, 1) := by decide +kernel
theorem d_M_copiesOf_55 : decode c_M_copiesOf 55 = .ok (.iload_n 3, 1) := by decide +kernel
theorem d_M_copiesOf_56 : decode c_M_copiesOf 56 = .ok (.if_icmp .ge 13, 3) := by decide +kernel
theorem d_M_copiesOf_59 : decode c_M_copiesOf 59 = .ok (.aload_n 0, 1) := by decide +kernel
theorem d_M_copiesOf_60 : decode c_M_copiesOf 60 = .ok (.getfield 51, 3) := by decide +kernel
theorem d_M_copiesOf_63 : decode c_M_copiesOf 63 = .ok (.iload 5, 2) := by decide +kernel
theorem d_M_copiesOf_65 : decode c_M_copiesOf 65 = .ok (.iaload, 1) := by decide +kernel
theorem d_M_copiesOf_66 : decode c_M_copiesOf 66 = .ok (.goto 4, 3) := by decide +kernel
theorem d_M_copiesOf_69 : decode c_M_copiesOf 69 = .ok (.iload_n 3, 1) := by decide +kernel
theorem d_M_copiesOf_70 : decode c_M_copiesOf 70 = .ok (.istore 7, 2) := by decide +kernel
theorem d_M_copiesOf_72 : decode c_M_copiesOf 72 = .ok (.iload 7, 2) := by decide +kernel
theorem d_M_copiesOf_74 : decode c_M_copiesOf 74 = .ok (.ifCond .ne 5, 3) := by decide +kernel
theorem d_M_copiesOf_77 : decode c_M_copiesOf 77 = .ok (.iconst (-1), 1) := by decide +kernel
theorem d_M_copiesOf_78 : decode c_M_copiesOf 78 = .ok (.ireturn, 1) := by decide +kernel
theorem d_M_copiesOf_79 : decode c_M_copiesOf 79 = .ok (.iload_n 3, 1) := by decide +kernel
theorem d_M_copiesOf_80 : decode c_M_copiesOf 80 = .ok (.iload 7, 2) := by decide +kernel
theorem d_M_copiesOf_82 : decode c_M_copiesOf 82 = .ok (.isub, 1) := by decide +kernel
theorem d_M_copiesOf_83 : decode c_M_copiesOf 83 = .ok (.istore_n 3, 1) := by decide +kernel
theorem d_M_copiesOf_84 : decode c_M_copiesOf 84 = .ok (.iload_n 1, 1) := by decide +kernel
theorem d_M_copiesOf_85 : decode c_M_copiesOf 85 = .ok (.iload 7, 2) := by decide +kernel
theorem d_M_copiesOf_87 : decode c_M_copiesOf 87 = .ok (.iadd, 1) := by decide +kernel
theorem d_M_copiesOf_88 : decode c_M_copiesOf 88 = .ok (.istore_n 1, 1) := by decide +kernel
theorem d_M_copiesOf_89 : decode c_M_copiesOf 89 = .ok (.iinc 6 1, 3) := by decide +kernel
theorem d_M_copiesOf_92 : decode c_M_copiesOf 92 = .ok (.goto (-56), 3) := by decide +kernel
theorem d_M_copiesOf_95 : decode c_M_copiesOf 95 = .ok (.iinc 4 1, 3) := by decide +kernel
theorem d_M_copiesOf_98 : decode c_M_copiesOf 98 = .ok (.goto (-79), 3) := by decide +kernel
theorem d_M_copiesOf_101 : decode c_M_copiesOf 101 = .ok (.iinc 2 1, 3) := by decide +kernel
theorem d_M_copiesOf_104 : decode c_M_copiesOf 104 = .ok (.goto (-100), 3) := by decide +kernel
theorem d_M_copiesOf_107 : decode c_M_copiesOf 107 = .ok (.iload_n 1, 1) := by decide +kernel
theorem d_M_copiesOf_108 : decode c_M_copiesOf 108 = .ok (.ireturn, 1) := by decide +kernel
theorem d_M_isAhead_0 : decode c_M_isAhead 0 = .ok (.iconst 0, 1) := by decide +kernel
theorem d_M_isAhead_1 : decode c_M_isAhead 1 = .ok (.istore_n 1, 1) := by decide +kernel
theorem d_M_isAhead_2 : decode c_M_isAhead 2 = .ok (.iload_n 1, 1) := by decide +kernel
theorem d_M_isAhead_3 : decode c_M_isAhead 3 = .ok (.bipush 8, 2) := by decide +kernel
theorem d_M_isAhead_5 : decode c_M_isAhead 5 = .ok (.if_icmp .ge 45, 3) := by decide +kernel
theorem d_M_isAhead_8 : decode c_M_isAhead 8 = .ok (.aload_n 0, 1) := by decide +kernel
theorem d_M_isAhead_9 : decode c_M_isAhead 9 = .ok (.getfield 54, 3) := by decide +kernel
theorem d_M_isAhead_12 : decode c_M_isAhead 12 = .ok (.iload_n 1, 1) := by decide +kernel
theorem d_M_isAhead_13 : decode c_M_isAhead 13 = .ok (.iaload, 1) := by decide +kernel
theorem d_M_isAhead_14 : decode c_M_isAhead 14 = .ok (.aload_n 0, 1) := by decide +kernel
theorem d_M_isAhead_15 : decode c_M_isAhead 15 = .ok (.getfield 57, 3) := by decide +kernel
theorem d_M_isAhead_18 : decode c_M_isAhead 18 = .ok (.iload_n 1, 1) := by decide +kernel
theorem d_M_isAhead_19 : decode c_M_isAhead 19 = .ok (.iaload, 1) := by decide +kernel
theorem d_M_isAhead_20 : decode c_M_isAhead 20 = .ok (.if_icmp .eq 24, 3) := by decide +kernel
theorem d_M_isAhead_23 : decode c_M_isAhead 23 = .ok (.aload_n 0, 1) := by decide +kernel
theorem d_M_isAhead_24 : decode c_M_isAhead 24 = .ok (.getfield 54, 3) := by decide +kernel
theorem d_M_isAhead_27 : decode c_M_isAhead 27 = .ok (.iload_n 1, 1) := by decide +kernel
theorem d_M_isAhead_28 : decode c_M_isAhead 28 = .ok (.iaload, 1) := by decide +kernel
theorem d_M_isAhead_29 : decode c_M_isAhead 29 = .ok (.aload_n 0, 1) := by decide +kernel
theorem d_M_isAhead_30 : decode c_M_isAhead 30 = .ok (.getfield 57, 3) := by decide +kernel
theorem d_M_isAhead_33 : decode c_M_isAhead 33 = .ok (.iload_n 1, 1) := by decide +kernel
theorem d_M_isAhead_34 : decode c_M_isAhead 34 = .ok (.iaload, 1) := by decide +kernel
theorem d_M_isAhead_35 : decode c_M_isAhead 35 = .ok (.if_icmp .le 7, 3) := by decide +kernel
theorem d_M_isAhead_38 : decode c_M_isAhead 38 = .ok (.iconst 1, 1) := by decide +kernel
theorem d_M_isAhead_39 : decode c_M_isAhead 39 = .ok (.goto 4, 3) := by decide +kernel
theorem d_M_isAhead_42 : decode c_M_isAhead 42 = .ok (.iconst 0, 1) := by decide +kernel
theorem d_M_isAhead_43 : decode c_M_isAhead 43 = .ok (.ireturn, 1) := by decide +kernel
theorem d_M_isAhead_44 : decode c_M_isAhead 44 = .ok (.iinc 1 1, 3) := by decide +kernel
theorem d_M_isAhead_47 : decode c_M_isAhead 47 = .ok (.goto (-45), 3) := by decide +kernel
theorem d_M_isAhead_50 : decode c_M_isAhead 50 = .ok (.iconst 0, 1) := by decide +kernel
theorem d_M_isAhead_51 : decode c_M_isAhead 51 = .ok (.ireturn, 1) := by decide +kernel
theorem d_M_weigh_0 : decode c_M_weigh 0 = .ok (.aload_n 0, 1) := by decide +kernel
theorem d_M_weigh_1 : decode c_M_weigh 1 = .ok (.invokevirtual 99, 3) := by decide +kernel
theorem d_M_weigh_4 : decode c_M_weigh 4 = .ok (.istore_n 1, 1) := by decide +kernel
theorem d_M_weigh_5 : decode c_M_weigh 5 = .ok (.iload_n 1, 1) := by decide +kernel
theorem d_M_weigh_6 : decode c_M_weigh 6 = .ok (.aload_n 0, 1) := by decide +kernel
theorem d_M_weigh_7 : decode c_M_weigh 7 = .ok (.getfield 103, 3) := by decide +kernel
theorem d_M_weigh_10 : decode c_M_weigh 10 = .ok (.if_icmp .lt 10, 3) := by decide +kernel
theorem d_M_weigh_13 : decode c_M_weigh 13 = .ok (.aload_n 0, 1) := by decide +kernel
theorem d_M_weigh_14 : decode c_M_weigh 14 = .ok (.invokevirtual 106, 3) := by decide +kernel
theorem d_M_weigh_17 : decode c_M_weigh 17 = .ok (.ifCond .ne 4, 3) := by decide +kernel
theorem d_M_weigh_20 : decode c_M_weigh 20 = .ok (.return_, 1) := by decide +kernel
theorem d_M_weigh_21 : decode c_M_weigh 21 = .ok (.aload_n 0, 1) := by decide +kernel
theorem d_M_weigh_22 : decode c_M_weigh 22 = .ok (.invokevirtual 110, 3) := by decide +kernel
theorem d_M_weigh_25 : decode c_M_weigh 25 = .ok (.istore_n 2, 1) := by decide +kernel
theorem d_M_weigh_26 : decode c_M_weigh 26 = .ok (.iload_n 1, 1) := by decide +kernel
theorem d_M_weigh_27 : decode c_M_weigh 27 = .ok (.aload_n 0, 1) := by decide +kernel
theorem d_M_weigh_28 : decode c_M_weigh 28 = .ok (.getfield 103, 3) := by decide +kernel
theorem d_M_weigh_31 : decode c_M_weigh 31 = .ok (.if_icmp .ne 27, 3) := by decide +kernel
theorem d_M_weigh_34 : decode c_M_weigh 34 = .ok (.iload_n 2, 1) := by decide +kernel
theorem d_M_weigh_35 : decode c_M_weigh 35 = .ok (.aload_n 0, 1) := by decide +kernel
theorem d_M_weigh_36 : decode c_M_weigh 36 = .ok (.getfield 113, 3) := by decide +kernel
theorem d_M_weigh_39 : decode c_M_weigh 39 = .ok (.if_icmp .gt 18, 3) := by decide +kernel
theorem d_M_weigh_42 : decode c_M_weigh 42 = .ok (.iload_n 2, 1) := by decide +kernel
theorem d_M_weigh_43 : decode c_M_weigh 43 = .ok (.aload_n 0, 1) := by decide +kernel
theorem d_M_weigh_44 : decode c_M_weigh 44 = .ok (.getfield 113, 3) := by decide +kernel
theorem d_M_weigh_47 : decode c_M_weigh 47 = .ok (.if_icmp .ne 11, 3) := by decide +kernel
theorem d_M_weigh_50 : decode c_M_weigh 50 = .ok (.aload_n 0, 1) := by decide +kernel
theorem d_M_weigh_51 : decode c_M_weigh 51 = .ok (.invokevirtual 116, 3) := by decide +kernel
theorem d_M_weigh_54 : decode c_M_weigh 54 = .ok (.ifCond .ne 4, 3) := by decide +kernel
theorem d_M_weigh_57 : decode c_M_weigh 57 = .ok (.return_, 1) := by decide +kernel
theorem d_M_weigh_58 : decode c_M_weigh 58 = .ok (.aload_n 0, 1) := by decide +kernel
theorem d_M_weigh_59 : decode c_M_weigh 59 = .ok (.iload_n 1, 1) := by decide +kernel
theorem d_M_weigh_60 : decode c_M_weigh 60 = .ok (.putfield 103, 3) := by decide +kernel
theorem d_M_weigh_63 : decode c_M_weigh 63 = .ok (.aload_n 0, 1) := by decide +kernel
theorem d_M_weigh_64 : decode c_M_weigh 64 = .ok (.iload_n 2, 1) := by decide +kernel
theorem d_M_weigh_65 : decode c_M_weigh 65 = .ok (.putfield 113, 3) := by decide +kernel
theorem d_M_weigh_68 : decode c_M_weigh 68 = .ok (.iconst 0, 1) := by decide +kernel
theorem d_M_weigh_69 : decode c_M_weigh 69 = .ok (.istore_n 3, 1) := by decide +kernel
theorem d_M_weigh_70 : decode c_M_weigh 70 = .ok (.iload_n 3, 1) := by decide +kernel
theorem d_M_weigh_71 : decode c_M_weigh 71 = .ok (.bipush 8, 2) := by decide +kernel
theorem d_M_weigh_73 : decode c_M_weigh 73 = .ok (.if_icmp .ge 21, 3) := by decide +kernel
theorem d_M_weigh_76 : decode c_M_weigh 76 = .ok (.aload_n 0, 1) := by decide +kernel
theorem d_M_weigh_77 : decode c_M_weigh 77 = .ok (.getfield 57, 3) := by decide +kernel
theorem d_M_weigh_80 : decode c_M_weigh 80 = .ok (.iload_n 3, 1) := by decide +kernel
theorem d_M_weigh_81 : decode c_M_weigh 81 = .ok (.aload_n 0, 1) := by decide +kernel
theorem d_M_weigh_82 : decode c_M_weigh 82 = .ok (.getfield 54, 3) := by decide +kernel
theorem d_M_weigh_85 : decode c_M_weigh 85 = .ok (.iload_n 3, 1) := by decide +kernel
theorem d_M_weigh_86 : decode c_M_weigh 86 = .ok (.iaload, 1) := by decide +kernel
theorem d_M_weigh_87 : decode c_M_weigh 87 = .ok (.iastore, 1) := by decide +kernel
theorem d_M_weigh_88 : decode c_M_weigh 88 = .ok (.iinc 3 1, 3) := by decide +kernel
theorem d_M_weigh_91 : decode c_M_weigh 91 = .ok (.goto (-21), 3) := by decide +kernel
theorem d_M_weigh_94 : decode c_M_weigh 94 = .ok (.return_, 1) := by decide +kernel
theorem d_M_search_0 : decode c_M_search 0 = .ok (.aload_n 0, 1) := by decide +kernel
theorem d_M_search_1 : decode c_M_search 1 = .ok (.iconst 0, 1) := by decide +kernel
theorem d_M_search_2 : decode c_M_search 2 = .ok (.putfield 103, 3) := by decide +kernel
theorem d_M_search_5 : decode c_M_search 5 = .ok (.aload_n 0, 1) := by decide +kernel
theorem d_M_search_6 : decode c_M_search 6 = .ok (.iconst 0, 1) := by decide +kernel
theorem d_M_search_7 : decode c_M_search 7 = .ok (.putfield 113, 3) := by decide +kernel
theorem d_M_search_10 : decode c_M_search 10 = .ok (.iconst 0, 1) := by decide +kernel
theorem d_M_search_11 : decode c_M_search 11 = .ok (.istore_n 2, 1) := by decide +kernel
theorem d_M_search_12 : decode c_M_search 12 = .ok (.iload_n 2, 1) := by decide +kernel
theorem d_M_search_13 : decode c_M_search 13 = .ok (.bipush 8, 2) := by decide +kernel
theorem d_M_search_15 : decode c_M_search 15 = .ok (.if_icmp .ge 23, 3) := by decide +kernel
theorem d_M_search_18 : decode c_M_search 18 = .ok (.aload_n 0, 1) := by decide +kernel
theorem d_M_search_19 : decode c_M_search 19 = .ok (.getfield 54, 3) := by decide +kernel
theorem d_M_search_22 : decode c_M_search 22 = .ok (.iload_n 2, 1) := by decide +kernel
theorem d_M_search_23 : decode c_M_search 23 = .ok (.iconst 0, 1) := by decide +kernel
theorem d_M_search_24 : decode c_M_search 24 = .ok (.iastore, 1) := by decide +kernel
theorem d_M_search_25 : decode c_M_search 25 = .ok (.aload_n 0, 1) := by decide +kernel
theorem d_M_search_26 : decode c_M_search 26 = .ok (.getfield 57, 3) := by decide +kernel
theorem d_M_search_29 : decode c_M_search 29 = .ok (.iload_n 2, 1) := by decide +kernel
theorem d_M_search_30 : decode c_M_search 30 = .ok (.iconst 0, 1) := by decide +kernel
theorem d_M_search_31 : decode c_M_search 31 = .ok (.iastore, 1) := by decide +kernel
theorem d_M_search_32 : decode c_M_search 32 = .ok (.iinc 2 1, 3) := by decide +kernel
theorem d_M_search_35 : decode c_M_search 35 = .ok (.goto (-23), 3) := by decide +kernel
theorem d_M_search_38 : decode c_M_search 38 = .ok (.iload_n 1, 1) := by decide +kernel
theorem d_M_search_39 : decode c_M_search 39 = .ok (.ifCond .le 7, 3) := by decide +kernel
theorem d_M_search_42 : decode c_M_search 42 = .ok (.iconst 1, 1) := by decide +kernel
theorem d_M_search_43 : decode c_M_search 43 = .ok (.goto 4, 3) := by decide +kernel
theorem d_M_search_46 : decode c_M_search 46 = .ok (.iconst 0, 1) := by decide +kernel
theorem d_M_search_47 : decode c_M_search 47 = .ok (.istore_n 2, 1) := by decide +kernel
theorem d_M_search_48 : decode c_M_search 48 = .ok (.iload_n 2, 1) := by decide +kernel
theorem d_M_search_49 : decode c_M_search 49 = .ok (.ifCond .eq 20, 3) := by decide +kernel
theorem d_M_search_52 : decode c_M_search 52 = .ok (.aload_n 0, 1) := by decide +kernel
theorem d_M_search_53 : decode c_M_search 53 = .ok (.iload_n 1, 1) := by decide +kernel
theorem d_M_search_54 : decode c_M_search 54 = .ok (.invokevirtual 119, 3) := by decide +kernel
theorem d_M_search_57 : decode c_M_search 57 = .ok (.istore_n 2, 1) := by decide +kernel
theorem d_M_search_58 : decode c_M_search 58 = .ok (.iload_n 2, 1) := by decide +kernel
theorem d_M_search_59 : decode c_M_search 59 = .ok (.ifCond .eq (-11), 3) := by decide +kernel
theorem d_M_search_62 : decode c_M_search 62 = .ok (.aload_n 0, 1) := by decide +kernel
theorem d_M_search_63 : decode c_M_search 63 = .ok (.invokevirtual 122, 3) := by decide +kernel
theorem d_M_search_66 : decode c_M_search 66 = .ok (.goto (-18), 3) := by decide +kernel
theorem d_M_search_69 : decode c_M_search 69 = .ok (.return_, 1) := by decide +kernel
theorem d_M_goOn_0 : decode c_M_goOn 0 = .ok (.iconst 0, 1) := by decide +kernel
theorem d_M_goOn_1 : decode c_M_goOn 1 = .ok (.istore_n 2, 1) := by decide +kernel
theorem d_M_goOn_2 : decode c_M_goOn 2 = .ok (.iload_n 2, 1) := by decide +kernel
theorem d_M_goOn_3 : decode c_M_goOn 3 = .ok (.bipush 8, 2) := by decide +kernel
theorem d_M_goOn_5 : decode c_M_goOn 5 = .ok (.if_icmp .ge 45, 3) := by decide +kernel
theorem d_M_goOn_8 : decode c_M_goOn 8 = .ok (.aload_n 0, 1) := by decide +kernel
theorem d_M_goOn_9 : decode c_M_goOn 9 = .ok (.getfield 51, 3) := by decide +kernel
theorem d_M_goOn_12 : decode c_M_goOn 12 = .ok (.iload_n 2, 1) := by decide +kernel
theorem d_M_goOn_13 : decode c_M_goOn 13 = .ok (.iaload, 1) := by decide +kernel
theorem d_M_goOn_14 : decode c_M_goOn 14 = .ok (.ifCond .le 23, 3) := by decide +kernel
theorem d_M_goOn_17 : decode c_M_goOn 17 = .ok (.aload_n 0, 1) := by decide +kernel
theorem d_M_goOn_18 : decode c_M_goOn 18 = .ok (.invokevirtual 110, 3) := by decide +kernel
theorem d_M_goOn_21 : decode c_M_goOn 21 = .ok (.iload_n 1, 1) := by decide +kernel
theorem d_M_goOn_22 : decode c_M_goOn 22 = .ok (.if_icmp .ge 15, 3) := by decide +kernel
theorem d_M_goOn_25 : decode c_M_goOn 25 = .ok (.aload_n 0, 1) := by decide +kernel
theorem d_M_goOn_26 : decode c_M_goOn 26 = .ok (.getfield 54, 3) := by decide +kernel
theorem d_M_goOn_29 : decode c_M_goOn 29 = .ok (.iload_n 2, 1) := by decide +kernel
theorem d_M_goOn_30 : decode c_M_goOn 30 = .ok (.dup2, 1) := by decide +kernel
theorem d_M_goOn_31 : decode c_M_goOn 31 = .ok (.iaload, 1) := by decide +kernel
theorem d_M_goOn_32 : decode c_M_goOn 32 = .ok (.iconst 1, 1) := by decide +kernel
theorem d_M_goOn_33 : decode c_M_goOn 33 = .ok (.iadd, 1) := by decide +kernel
theorem d_M_goOn_34 : decode c_M_goOn 34 = .ok (.iastore, 1) := by decide +kernel
theorem d_M_goOn_35 : decode c_M_goOn 35 = .ok (.iconst 1, 1) := by decide +kernel
theorem d_M_goOn_36 : decode c_M_goOn 36 = .ok (.ireturn, 1) := by decide +kernel
theorem d_M_goOn_37 : decode c_M_goOn 37 = .ok (.aload_n 0, 1) := by decide +kernel
theorem d_M_goOn_38 : decode c_M_goOn 38 = .ok (.getfield 54, 3) := by decide +kernel
theorem d_M_goOn_41 : decode c_M_goOn 41 = .ok (.iload_n 2, 1) := by decide +kernel
theorem d_M_goOn_42 : decode c_M_goOn 42 = .ok (.iconst 0, 1) := by decide +kernel
theorem d_M_goOn_43 : decode c_M_goOn 43 = .ok (.iastore, 1) := by decide +kernel
theorem d_M_goOn_44 : decode c_M_goOn 44 = .ok (.iinc 2 1, 3) := by decide +kernel
theorem d_M_goOn_47 : decode c_M_goOn 47 = .ok (.goto (-45), 3) := by decide +kernel
theorem d_M_goOn_50 : decode c_M_goOn 50 = .ok (.iconst 0, 1) := by decide +kernel
theorem d_M_goOn_51 : decode c_M_goOn 51 = .ok (.ireturn, 1) := by decide +kernel
theorem d_M_layOut_0 : decode c_M_layOut 0 = .ok (.aload_n 0, 1) := by decide +kernel
theorem d_M_layOut_1 : decode c_M_layOut 1 = .ok (.iconst 0, 1) := by decide +kernel
theorem d_M_layOut_2 : decode c_M_layOut 2 = .ok (.putfield 125, 3) := by decide +kernel
theorem d_M_layOut_5 : decode c_M_layOut 5 = .ok (.aload_n 0, 1) := by decide +kernel
theorem d_M_layOut_6 : decode c_M_layOut 6 = .ok (.getfield 29, 3) := by decide +kernel
theorem d_M_layOut_9 : decode c_M_layOut 9 = .ok (.iconst 1, 1) := by decide +kernel
theorem d_M_layOut_10 : decode c_M_layOut 10 = .ok (.laload, 1) := by decide +kernel
theorem d_M_layOut_11 : decode c_M_layOut 11 = .ok (.lstore_n 1, 1) := by decide +kernel
theorem d_M_layOut_12 : decode c_M_layOut 12 = .ok (.iconst 0, 1) := by decide +kernel
theorem d_M_layOut_13 : decode c_M_layOut 13 = .ok (.istore_n 3, 1) := by decide +kernel
theorem d_M_layOut_14 : decode c_M_layOut 14 = .ok (.iload_n 3, 1) := by decide +kernel
theorem d_M_layOut_15 : decode c_M_layOut 15 = .ok (.iconst 4, 1) := by decide +kernel
theorem d_M_layOut_16 : decode c_M_layOut 16 = .ok (.if_icmp .ge 166, 3) := by decide +kernel
theorem d_M_layOut_19 : decode c_M_layOut 19 = .ok (.aload_n 0, 1) := by decide +kernel
theorem d_M_layOut_20 : decode c_M_layOut 20 = .ok (.getfield 20, 3) := by decide +kernel
theorem d_M_layOut_23 : decode c_M_layOut 23 = .ok (.iload_n 3, 1) := by decide +kernel
theorem d_M_layOut_24 : decode c_M_layOut 24 = .ok (.iaload, 1) := by decide +kernel
theorem d_M_layOut_25 : decode c_M_layOut 25 = .ok (.istore 4, 2) := by decide +kernel
theorem d_M_layOut_27 : decode c_M_layOut 27 = .ok (.iconst 0, 1) := by decide +kernel
theorem d_M_layOut_28 : decode c_M_layOut 28 = .ok (.istore 5, 2) := by decide +kernel
theorem d_M_layOut_30 : decode c_M_layOut 30 = .ok (.iload 5, 2) := by decide +kernel
theorem d_M_layOut_32 : decode c_M_layOut 32 = .ok (.iconst 2, 1) := by decide +kernel
theorem d_M_layOut_33 : decode c_M_layOut 33 = .ok (.if_icmp .ge 143, 3) := by decide +kernel
theorem d_M_layOut_36 : decode c_M_layOut 36 = .ok (.iconst 2, 1) := by decide +kernel
theorem d_M_layOut_37 : decode c_M_layOut 37 = .ok (.iload_n 3, 1) := by decide +kernel
theorem d_M_layOut_38 : decode c_M_layOut 38 = .ok (.imul, 1) := by decide +kernel
theorem d_M_layOut_39 : decode c_M_layOut 39 = .ok (.iload 5, 2) := by decide +kernel
theorem d_M_layOut_41 : decode c_M_layOut 41 = .ok (.iadd, 1) := by decide +kernel
theorem d_M_layOut_42 : decode c_M_layOut 42 = .ok (.istore 6, 2) := by decide +kernel
theorem d_M_layOut_44 : decode c_M_layOut 44 = .ok (.iconst 0, 1) := by decide +kernel
theorem d_M_layOut_45 : decode c_M_layOut 45 = .ok (.istore 7, 2) := by decide +kernel
theorem d_M_layOut_47 : decode c_M_layOut 47 = .ok (.iload 7, 2) := by decide +kernel
theorem d_M_layOut_49 : decode c_M_layOut 49 = .ok (.aload_n 0, 1) := by decide +kernel
theorem d_M_layOut_50 : decode c_M_layOut 50 = .ok (.getfield 57, 3) := by decide +kernel
theorem d_M_layOut_53 : decode c_M_layOut 53 = .ok (.iload 6, 2) := by decide +kernel
theorem d_M_layOut_55 : decode c_M_layOut 55 = .ok (.iaload, 1) := by decide +kernel
theorem d_M_layOut_56 : decode c_M_layOut 56 = .ok (.if_icmp .ge 114, 3) := by decide +kernel
theorem d_M_layOut_59 : decode c_M_layOut 59 = .ok (.aload_n 0, 1) := by decide +kernel
theorem d_M_layOut_60 : decode c_M_layOut 60 = .ok (.getfield 51, 3) := by decide +kernel
theorem d_M_layOut_63 : decode c_M_layOut 63 = .ok (.iload 6, 2) := by decide +kernel
theorem d_M_layOut_65 : decode c_M_layOut 65 = .ok (.iaload, 1) := by decide +kernel
theorem d_M_layOut_66 : decode c_M_layOut 66 = .ok (.iload 4, 2) := by decide +kernel
theorem d_M_layOut_68 : decode c_M_layOut 68 = .ok (.if_icmp .ge 13, 3) := by decide +kernel
theorem d_M_layOut_71 : decode c_M_layOut 71 = .ok (.aload_n 0, 1) := by decide +kernel
theorem d_M_layOut_72 : decode c_M_layOut 72 = .ok (.getfield 51, 3) := by decide +kernel
theorem d_M_layOut_75 : decode c_M_layOut 75 = .ok (.iload 6, 2) := by decide +kernel
theorem d_M_layOut_77 : decode c_M_layOut 77 = .ok (.iaload, 1) := by decide +kernel
theorem d_M_layOut_78 : decode c_M_layOut 78 = .ok (.goto 5, 3) := by decide +kernel
theorem d_M_layOut_81 : decode c_M_layOut 81 = .ok (.iload 4, 2) := by decide +kernel
theorem d_M_layOut_83 : decode c_M_layOut 83 = .ok (.istore 8, 2) := by decide +kernel
theorem d_M_layOut_85 : decode c_M_layOut 85 = .ok (.iload 4, 2) := by decide +kernel
theorem d_M_layOut_87 : decode c_M_layOut 87 = .ok (.iload 8, 2) := by decide +kernel
theorem d_M_layOut_89 : decode c_M_layOut 89 = .ok (.isub, 1) := by decide +kernel
theorem d_M_layOut_90 : decode c_M_layOut 90 = .ok (.istore 4, 2) := by decide +kernel
theorem d_M_layOut_92 : decode c_M_layOut 92 = .ok (.iconst 0, 1) := by decide +kernel
theorem d_M_layOut_93 : decode c_M_layOut 93 = .ok (.istore 9, 2) := by decide +kernel
theorem d_M_layOut_95 : decode c_M_layOut 95 = .ok (.iload 9, 2) := by decide +kernel
theorem d_M_layOut_97 : decode c_M_layOut 97 = .ok (.iload 8, 2) := by decide +kernel
theorem d_M_layOut_99 : decode c_M_layOut 99 = .ok (.if_icmp .ge 51, 3) := by decide +kernel
theorem d_M_layOut_102 : decode c_M_layOut 102 = .ok (.aload_n 0, 1) := by decide +kernel
theorem d_M_layOut_103 : decode c_M_layOut 103 = .ok (.iload_n 3, 1) := by decide +kernel
theorem d_M_layOut_104 : decode c_M_layOut 104 = .ok (.aload_n 0, 1) := by decide +kernel
theorem d_M_layOut_105 : decode c_M_layOut 105 = .ok (.getfield 29, 3) := by decide +kernel
theorem d_M_layOut_108 : decode c_M_layOut 108 = .ok (.iconst 0, 1) := by decide +kernel
theorem d_M_layOut_109 : decode c_M_layOut 109 = .ok (.laload, 1) := by decide +kernel
theorem d_M_layOut_110 : decode c_M_layOut 110 = .ok (.iload 9, 2) := by decide +kernel
theorem d_M_layOut_112 : decode c_M_layOut 112 = .ok (.i2l, 1) := by decide +kernel
theorem d_M_layOut_113 : decode c_M_layOut 113 = .ok (.aload_n 0, 1) := by decide +kernel
theorem d_M_layOut_114 : decode c_M_layOut 114 = .ok (.iload 6, 2) := by decide +kernel
theorem d_M_layOut_116 : decode c_M_layOut 116 = .ok (.invokevirtual 90, 3) := by decide +kernel
theorem d_M_layOut_119 : decode c_M_layOut 119 = .ok (.aload_n 0, 1) := by decide +kernel
theorem d_M_layOut_120 : decode c_M_layOut 120 = .ok (.getfield 84, 3) := by decide +kernel
theorem d_M_layOut_123 : decode c_M_layOut 123 = .ok (.ladd, 1) := by decide +kernel
theorem d_M_layOut_124 : decode c_M_layOut 124 = .ok (.lmul, 1) := by decide +kernel
theorem d_M_layOut_125 : decode c_M_layOut 125 = .ok (.ladd, 1) := by decide +kernel
theorem d_M_layOut_126 : decode c_M_layOut 126 = .ok (.lload_n 1, 1) := by decide +kernel
theorem d_M_layOut_127 : decode c_M_layOut 127 = .ok (.iload 5, 2) := by decide +kernel
theorem d_M_layOut_129 : decode c_M_layOut 129 = .ok (.aload_n 0, 1) := by decide +kernel
theorem d_M_layOut_130 : decode c_M_layOut 130 = .ok (.iload 6, 2) := by decide +kernel
theorem d_M_layOut_132 : decode c_M_layOut 132 = .ok (.invokevirtual 90, 3) := by decide +kernel
theorem d_M_layOut_135 : decode c_M_layOut 135 = .ok (.aload_n 0, 1) := by decide +kernel
theorem d_M_layOut_136 : decode c_M_layOut 136 = .ok (.iload 6, 2) := by decide +kernel
theorem d_M_layOut_138 : decode c_M_layOut 138 = .ok (.invokevirtual 96, 3) := by decide +kernel
theorem d_M_layOut_141 : decode c_M_layOut 141 = .ok (.invokevirtual 128, 3) := by decide +kernel
theorem d_M_layOut_144 : decode c_M_layOut 144 = .ok (.iinc 9 1, 3) := by decide +kernel
theorem d_M_layOut_147 : decode c_M_layOut 147 = .ok (.goto (-52), 3) := by decide +kernel
theorem d_M_layOut_150 : decode c_M_layOut 150 = .ok (.lload_n 1, 1) := by decide +kernel
theorem d_M_layOut_151 : decode c_M_layOut 151 = .ok (.aload_n 0, 1) := by decide +kernel
theorem d_M_layOut_152 : decode c_M_layOut 152 = .ok (.iload 6, 2) := by decide +kernel
theorem d_M_layOut_154 : decode c_M_layOut 154 = .ok (.invokevirtual 96, 3) := by decide +kernel
theorem d_M_layOut_157 : decode c_M_layOut 157 = .ok (.aload_n 0, 1) := by decide +kernel
theorem d_M_layOut_158 : decode c_M_layOut 158 = .ok (.getfield 84, 3) := by decide +kernel
theorem d_M_layOut_161 : decode c_M_layOut 161 = .ok (.ladd, 1) := by decide +kernel
theorem d_M_layOut_162 : decode c_M_layOut 162 = .ok (.ladd, 1) := by decide +kernel
theorem d_M_layOut_163 : decode c_M_layOut 163 = .ok (.lstore_n 1, 1) := by decide +kernel
theorem d_M_layOut_164 : decode c_M_layOut 164 = .ok (.iinc 7 1, 3) := by decide +kernel
theorem d_M_layOut_167 : decode c_M_layOut 167 = .ok (.goto (-120), 3) := by decide +kernel
theorem d_M_layOut_170 : decode c_M_layOut 170 = .ok (.iinc 5 1, 3) := by decide +kernel
theorem d_M_layOut_173 : decode c_M_layOut 173 = .ok (.goto (-143), 3) := by decide +kernel
theorem d_M_layOut_176 : decode c_M_layOut 176 = .ok (.iinc 3 1, 3) := by decide +kernel
theorem d_M_layOut_179 : decode c_M_layOut 179 = .ok (.goto (-165), 3) := by decide +kernel
theorem d_M_layOut_182 : decode c_M_layOut 182 = .ok (.return_, 1) := by decide +kernel
theorem d_M_put_0 : decode c_M_put 0 = .ok (.bipush 6, 2) := by decide +kernel
theorem d_M_put_2 : decode c_M_put 2 = .ok (.aload_n 0, 1) := by decide +kernel
theorem d_M_put_3 : decode c_M_put 3 = .ok (.getfield 125, 3) := by decide +kernel
theorem d_M_put_6 : decode c_M_put 6 = .ok (.imul, 1) := by decide +kernel
theorem d_M_put_7 : decode c_M_put 7 = .ok (.istore 11, 2) := by decide +kernel
theorem d_M_put_9 : decode c_M_put 9 = .ok (.aload_n 0, 1) := by decide +kernel
theorem d_M_put_10 : decode c_M_put 10 = .ok (.getfield 32, 3) := by decide +kernel
theorem d_M_put_13 : decode c_M_put 13 = .ok (.iload 11, 2) := by decide +kernel
theorem d_M_put_15 : decode c_M_put 15 = .ok (.iload_n 1, 1) := by decide +kernel
theorem d_M_put_16 : decode c_M_put 16 = .ok (.i2l, 1) := by decide +kernel
theorem d_M_put_17 : decode c_M_put 17 = .ok (.lastore, 1) := by decide +kernel
theorem d_M_put_18 : decode c_M_put 18 = .ok (.aload_n 0, 1) := by decide +kernel
theorem d_M_put_19 : decode c_M_put 19 = .ok (.getfield 32, 3) := by decide +kernel
theorem d_M_put_22 : decode c_M_put 22 = .ok (.iload 11, 2) := by decide +kernel
theorem d_M_put_24 : decode c_M_put 24 = .ok (.iconst 1, 1) := by decide +kernel
theorem d_M_put_25 : decode c_M_put 25 = .ok (.iadd, 1) := by decide +kernel
theorem d_M_put_26 : decode c_M_put 26 = .ok (.lload_n 2, 1) := by decide +kernel
theorem d_M_put_27 : decode c_M_put 27 = .ok (.lastore, 1) := by decide +kernel
theorem d_M_put_28 : decode c_M_put 28 = .ok (.aload_n 0, 1) := by decide +kernel
theorem d_M_put_29 : decode c_M_put 29 = .ok (.getfield 32, 3) := by decide +kernel
theorem d_M_put_32 : decode c_M_put 32 = .ok (.iload 11, 2) := by decide +kernel
theorem d_M_put_34 : decode c_M_put 34 = .ok (.iconst 2, 1) := by decide +kernel
theorem d_M_put_35 : decode c_M_put 35 = .ok (.iadd, 1) := by decide +kernel
theorem d_M_put_36 : decode c_M_put 36 = .ok (.lload 4, 2) := by decide +kernel
theorem d_M_put_38 : decode c_M_put 38 = .ok (.lastore, 1) := by decide +kernel
theorem d_M_put_39 : decode c_M_put 39 = .ok (.aload_n 0, 1) := by decide +kernel
theorem d_M_put_40 : decode c_M_put 40 = .ok (.getfield 32, 3) := by decide +kernel
theorem d_M_put_43 : decode c_M_put 43 = .ok (.iload 11, 2) := by decide +kernel
theorem d_M_put_45 : decode c_M_put 45 = .ok (.iconst 3, 1) := by decide +kernel
theorem d_M_put_46 : decode c_M_put 46 = .ok (.iadd, 1) := by decide +kernel
theorem d_M_put_47 : decode c_M_put 47 = .ok (.iload 6, 2) := by decide +kernel
theorem d_M_put_49 : decode c_M_put 49 = .ok (.i2l, 1) := by decide +kernel
theorem d_M_put_50 : decode c_M_put 50 = .ok (.lastore, 1) := by decide +kernel
theorem d_M_put_51 : decode c_M_put 51 = .ok (.aload_n 0, 1) := by decide +kernel
theorem d_M_put_52 : decode c_M_put 52 = .ok (.getfield 32, 3) := by decide +kernel
theorem d_M_put_55 : decode c_M_put 55 = .ok (.iload 11, 2) := by decide +kernel
theorem d_M_put_57 : decode c_M_put 57 = .ok (.iconst 4, 1) := by decide +kernel
theorem d_M_put_58 : decode c_M_put 58 = .ok (.iadd, 1) := by decide +kernel
theorem d_M_put_59 : decode c_M_put 59 = .ok (.lload 7, 2) := by decide +kernel
theorem d_M_put_61 : decode c_M_put 61 = .ok (.lastore, 1) := by decide +kernel
theorem d_M_put_62 : decode c_M_put 62 = .ok (.aload_n 0, 1) := by decide +kernel
theorem d_M_put_63 : decode c_M_put 63 = .ok (.getfield 32, 3) := by decide +kernel
theorem d_M_put_66 : decode c_M_put 66 = .ok (.iload 11, 2) := by decide +kernel
theorem d_M_put_68 : decode c_M_put 68 = .ok (.iconst 5, 1) := by decide +kernel
theorem d_M_put_69 : decode c_M_put 69 = .ok (.iadd, 1) := by decide +kernel
theorem d_M_put_70 : decode c_M_put 70 = .ok (.lload 9, 2) := by decide +kernel
theorem d_M_put_72 : decode c_M_put 72 = .ok (.lastore, 1) := by decide +kernel
theorem d_M_put_73 : decode c_M_put 73 = .ok (.aload_n 0, 1) := by decide +kernel
theorem d_M_put_74 : decode c_M_put 74 = .ok (.getfield 35, 3) := by decide +kernel
theorem d_M_put_77 : decode c_M_put 77 = .ok (.aload_n 0, 1) := by decide +kernel
theorem d_M_put_78 : decode c_M_put 78 = .ok (.getfield 125, 3) := by decide +kernel
theorem d_M_put_81 : decode c_M_put 81 = .ok (.iconst 0, 1) := by decide +kernel
theorem d_M_put_82 : decode c_M_put 82 = .ok (.bastore, 1) := by decide +kernel
theorem d_M_put_83 : decode c_M_put 83 = .ok (.aload_n 0, 1) := by decide +kernel
theorem d_M_put_84 : decode c_M_put 84 = .ok (.dup, 1) := by decide +kernel
theorem d_M_put_85 : decode c_M_put 85 = .ok (.getfield 125, 3) := by decide +kernel
theorem d_M_put_88 : decode c_M_put 88 = .ok (.iconst 1, 1) := by decide +kernel
theorem d_M_put_89 : decode c_M_put 89 = .ok (.iadd, 1) := by decide +kernel
theorem d_M_put_90 : decode c_M_put 90 = .ok (.putfield 125, 3) := by decide +kernel
theorem d_M_put_93 : decode c_M_put 93 = .ok (.return_, 1) := by decide +kernel
theorem d_M_run_0 : decode c_M_run 0 = .ok (.aload_n 0, 1) := by decide +kernel
theorem d_M_run_1 : decode c_M_run 1 = .ok (.iload_n 1, 1) := by decide +kernel
theorem d_M_run_2 : decode c_M_run 2 = .ok (.ifCond .lt 26, 3) := by decide +kernel
theorem d_M_run_5 : decode c_M_run 5 = .ok (.iload_n 1, 1) := by decide +kernel
theorem d_M_run_6 : decode c_M_run 6 = .ok (.iconst 4, 1) := by decide +kernel
theorem d_M_run_7 : decode c_M_run 7 = .ok (.if_icmp .gt 21, 3) := by decide +kernel
theorem d_M_run_10 : decode c_M_run 10 = .ok (.lload_n 2, 1) := by decide +kernel
theorem d_M_run_11 : decode c_M_run 11 = .ok (.lconst 0, 1) := by decide +kernel
theorem d_M_run_12 : decode c_M_run 12 = .ok (.lcmp, 1) := by decide +kernel
theorem d_M_run_13 : decode c_M_run 13 = .ok (.ifCond .lt 15, 3) := by decide +kernel
theorem d_M_run_16 : decode c_M_run 16 = .ok (.lload_n 2, 1) := by decide +kernel
theorem d_M_run_17 : decode c_M_run 17 = .ok (.ldc2_w 132, 3) := by decide +kernel
theorem d_M_run_20 : decode c_M_run 20 = .ok (.lcmp, 1) := by decide +kernel
theorem d_M_run_21 : decode c_M_run 21 = .ok (.ifCond .gt 7, 3) := by decide +kernel
theorem d_M_run_24 : decode c_M_run 24 = .ok (.iconst 0, 1) := by decide +kernel
theorem d_M_run_25 : decode c_M_run 25 = .ok (.goto 4, 3) := by decide +kernel
theorem d_M_run_28 : decode c_M_run 28 = .ok (.iconst 1, 1) := by decide +kernel
theorem d_M_run_29 : decode c_M_run 29 = .ok (.putfield 69, 3) := by decide +kernel
theorem d_M_run_32 : decode c_M_run 32 = .ok (.aload_n 0, 1) := by decide +kernel
theorem d_M_run_33 : decode c_M_run 33 = .ok (.getfield 69, 3) := by decide +kernel
theorem d_M_run_36 : decode c_M_run 36 = .ok (.ifCond .eq 5, 3) := by decide +kernel
theorem d_M_run_39 : decode c_M_run 39 = .ok (.iconst 0, 1) := by decide +kernel
theorem d_M_run_40 : decode c_M_run 40 = .ok (.ireturn, 1) := by decide +kernel
theorem d_M_run_41 : decode c_M_run 41 = .ok (.iconst 0, 1) := by decide +kernel
theorem d_M_run_42 : decode c_M_run 42 = .ok (.istore 4, 2) := by decide +kernel
theorem d_M_run_44 : decode c_M_run 44 = .ok (.iload 4, 2) := by decide +kernel
theorem d_M_run_46 : decode c_M_run 46 = .ok (.aload_n 0, 1) := by decide +kernel
theorem d_M_run_47 : decode c_M_run 47 = .ok (.getfield 73, 3) := by decide +kernel
theorem d_M_run_50 : decode c_M_run 50 = .ok (.if_icmp .ge 15, 3) := by decide +kernel
theorem d_M_run_53 : decode c_M_run 53 = .ok (.aload_n 0, 1) := by decide +kernel
theorem d_M_run_54 : decode c_M_run 54 = .ok (.iload 4, 2) := by decide +kernel
theorem d_M_run_56 : decode c_M_run 56 = .ok (.invokevirtual 134, 3) := by decide +kernel
theorem d_M_run_59 : decode c_M_run 59 = .ok (.iinc 4 1, 3) := by decide +kernel
theorem d_M_run_62 : decode c_M_run 62 = .ok (.goto (-18), 3) := by decide +kernel
theorem d_M_run_65 : decode c_M_run 65 = .ok (.iconst 0, 1) := by decide +kernel
theorem d_M_run_66 : decode c_M_run 66 = .ok (.istore 4, 2) := by decide +kernel
theorem d_M_run_68 : decode c_M_run 68 = .ok (.iload 4, 2) := by decide +kernel
theorem d_M_run_70 : decode c_M_run 70 = .ok (.bipush 8, 2) := by decide +kernel
theorem d_M_run_72 : decode c_M_run 72 = .ok (.if_icmp .ge 23, 3) := by decide +kernel
theorem d_M_run_75 : decode c_M_run 75 = .ok (.aload_n 0, 1) := by decide +kernel
theorem d_M_run_76 : decode c_M_run 76 = .ok (.getfield 51, 3) := by decide +kernel
theorem d_M_run_79 : decode c_M_run 79 = .ok (.iload 4, 2) := by decide +kernel
theorem d_M_run_81 : decode c_M_run 81 = .ok (.aload_n 0, 1) := by decide +kernel
theorem d_M_run_82 : decode c_M_run 82 = .ok (.iload 4, 2) := by decide +kernel
theorem d_M_run_84 : decode c_M_run 84 = .ok (.iload_n 1, 1) := by decide +kernel
theorem d_M_run_85 : decode c_M_run 85 = .ok (.invokevirtual 138, 3) := by decide +kernel
theorem d_M_run_88 : decode c_M_run 88 = .ok (.iastore, 1) := by decide +kernel
theorem d_M_run_89 : decode c_M_run 89 = .ok (.iinc 4 1, 3) := by decide +kernel
theorem d_M_run_92 : decode c_M_run 92 = .ok (.goto (-24), 3) := by decide +kernel
theorem d_M_run_95 : decode c_M_run 95 = .ok (.aload_n 0, 1) := by decide +kernel
theorem d_M_run_96 : decode c_M_run 96 = .ok (.lload_n 2, 1) := by decide +kernel
theorem d_M_run_97 : decode c_M_run 97 = .ok (.l2i, 1) := by decide +kernel
theorem d_M_run_98 : decode c_M_run 98 = .ok (.iconst 1, 1) := by decide +kernel
theorem d_M_run_99 : decode c_M_run 99 = .ok (.iadd, 1) := by decide +kernel
theorem d_M_run_100 : decode c_M_run 100 = .ok (.invokevirtual 142, 3) := by decide +kernel
theorem d_M_run_103 : decode c_M_run 103 = .ok (.aload_n 0, 1) := by decide +kernel
theorem d_M_run_104 : decode c_M_run 104 = .ok (.getfield 103, 3) := by decide +kernel
theorem d_M_run_107 : decode c_M_run 107 = .ok (.istore 4, 2) := by decide +kernel
theorem d_M_run_109 : decode c_M_run 109 = .ok (.aload_n 0, 1) := by decide +kernel
theorem d_M_run_110 : decode c_M_run 110 = .ok (.lload_n 2, 1) := by decide +kernel
theorem d_M_run_111 : decode c_M_run 111 = .ok (.l2i, 1) := by decide +kernel
theorem d_M_run_112 : decode c_M_run 112 = .ok (.invokevirtual 142, 3) := by decide +kernel
theorem d_M_run_115 : decode c_M_run 115 = .ok (.aload_n 0, 1) := by decide +kernel
theorem d_M_run_116 : decode c_M_run 116 = .ok (.invokevirtual 145, 3) := by decide +kernel
theorem d_M_run_119 : decode c_M_run 119 = .ok (.aload_n 0, 1) := by decide +kernel
theorem d_M_run_120 : decode c_M_run 120 = .ok (.iload_n 1, 1) := by decide +kernel
theorem d_M_run_121 : decode c_M_run 121 = .ok (.aload_n 0, 1) := by decide +kernel
theorem d_M_run_122 : decode c_M_run 122 = .ok (.getfield 73, 3) := by decide +kernel
theorem d_M_run_125 : decode c_M_run 125 = .ok (.if_icmp .lt 16, 3) := by decide +kernel
theorem d_M_run_128 : decode c_M_run 128 = .ok (.iload 4, 2) := by decide +kernel
theorem d_M_run_130 : decode c_M_run 130 = .ok (.aload_n 0, 1) := by decide +kernel
theorem d_M_run_131 : decode c_M_run 131 = .ok (.getfield 103, 3) := by decide +kernel
theorem d_M_run_134 : decode c_M_run 134 = .ok (.if_icmp .ne 7, 3) := by decide +kernel
theorem d_M_run_137 : decode c_M_run 137 = .ok (.iconst 1, 1) := by decide +kernel
theorem d_M_run_138 : decode c_M_run 138 = .ok (.goto 4, 3) := by decide +kernel
theorem d_M_run_141 : decode c_M_run 141 = .ok (.iconst 0, 1) := by decide +kernel
theorem d_M_run_142 : decode c_M_run 142 = .ok (.putfield 148, 3) := by decide +kernel
theorem d_M_run_145 : decode c_M_run 145 = .ok (.aload_n 0, 1) := by decide +kernel
theorem d_M_run_146 : decode c_M_run 146 = .ok (.getfield 125, 3) := by decide +kernel
theorem d_M_run_149 : decode c_M_run 149 = .ok (.ireturn, 1) := by decide +kernel
theorem d_M_proved_0 : decode c_M_proved 0 = .ok (.aload_n 0, 1) := by decide +kernel
theorem d_M_proved_1 : decode c_M_proved 1 = .ok (.iconst 0, 1) := by decide +kernel
theorem d_M_proved_2 : decode c_M_proved 2 = .ok (.putfield 69, 3) := by decide +kernel
theorem d_M_proved_5 : decode c_M_proved 5 = .ok (.aload_n 0, 1) := by decide +kernel
theorem d_M_proved_6 : decode c_M_proved 6 = .ok (.getfield 148, 3) := by decide +kernel
theorem d_M_proved_9 : decode c_M_proved 9 = .ok (.ireturn, 1) := by decide +kernel
