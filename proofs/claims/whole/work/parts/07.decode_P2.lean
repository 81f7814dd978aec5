theorem d_P_part_0 : decode c_P_part 0 = .ok (.aload_n 0, 1) := by decide +kernel
theorem d_P_part_1 : decode c_P_part 1 = .ok (.iload_n 1, 1) := by decide +kernel
theorem d_P_part_2 : decode c_P_part 2 = .ok (.invokevirtual 49, 3) := by decide +kernel
theorem d_P_part_5 : decode c_P_part 5 = .ok (.lload_n 2, 1) := by decide +kernel
theorem d_P_part_6 : decode c_P_part 6 = .ok (.invokestatic 53, 3) := by decide +kernel
theorem d_P_part_9 : decode c_P_part 9 = .ok (.lload 4, 2) := by decide +kernel
theorem d_P_part_11 : decode c_P_part 11 = .ok (.invokestatic 53, 3) := by decide +kernel
theorem d_P_part_14 : decode c_P_part 14 = .ok (.lload 6, 2) := by decide +kernel
theorem d_P_part_16 : decode c_P_part 16 = .ok (.invokestatic 53, 3) := by decide +kernel
theorem d_P_part_19 : decode c_P_part 19 = .ok (.lload 6, 2) := by decide +kernel
theorem d_P_part_21 : decode c_P_part 21 = .ok (.lconst 0, 1) := by decide +kernel
theorem d_P_part_22 : decode c_P_part 22 = .ok (.lcmp, 1) := by decide +kernel
theorem d_P_part_23 : decode c_P_part 23 = .ok (.ifCond .ne 13, 3) := by decide +kernel
theorem d_P_part_26 : decode c_P_part 26 = .ok (.new 69, 3) := by decide +kernel
theorem d_P_part_29 : decode c_P_part 29 = .ok (.dup, 1) := by decide +kernel
theorem d_P_part_30 : decode c_P_part 30 = .ok (.ldc 166, 2) := by decide +kernel
theorem d_P_part_32 : decode c_P_part 32 = .ok (.invokespecial 73, 3) := by decide +kernel
theorem d_P_part_35 : decode c_P_part 35 = .ok (.athrow, 1) := by decide +kernel
theorem d_P_part_36 : decode c_P_part 36 = .ok (.aload_n 0, 1) := by decide +kernel
theorem d_P_part_37 : decode c_P_part 37 = .ok (.getfield 22, 3) := by decide +kernel
theorem d_P_part_40 : decode c_P_part 40 = .ok (.iload_n 1, 1) := by decide +kernel
theorem d_P_part_41 : decode c_P_part 41 = .ok (.aaload, 1) := by decide +kernel
theorem d_P_part_42 : decode c_P_part 42 = .ok (.lload_n 2, 1) := by decide +kernel
theorem d_P_part_43 : decode c_P_part 43 = .ok (.lload 4, 2) := by decide +kernel
theorem d_P_part_45 : decode c_P_part 45 = .ok (.lload 6, 2) := by decide +kernel
theorem d_P_part_47 : decode c_P_part 47 = .ok (.invokevirtual 168, 3) := by decide +kernel
theorem d_P_part_50 : decode c_P_part 50 = .ok (.ireturn, 1) := by decide +kernel
theorem d_P_waste_0 : decode c_P_waste 0 = .ok (.iload_n 1, 1) := by decide +kernel
theorem d_P_waste_1 : decode c_P_waste 1 = .ok (.invokestatic 139, 3) := by decide +kernel
theorem d_P_waste_4 : decode c_P_waste 4 = .ok (.ldc2_w 171, 3) := by decide +kernel
theorem d_P_waste_7 : decode c_P_waste 7 = .ok (.aload_n 0, 1) := by decide +kernel
theorem d_P_waste_8 : decode c_P_waste 8 = .ok (.getfield 13, 3) := by decide +kernel
theorem d_P_waste_11 : decode c_P_waste 11 = .ok (.lmul, 1) := by decide +kernel
theorem d_P_waste_12 : decode c_P_waste 12 = .ok (.aload_n 0, 1) := by decide +kernel
theorem d_P_waste_13 : decode c_P_waste 13 = .ok (.getfield 17, 3) := by decide +kernel
theorem d_P_waste_16 : decode c_P_waste 16 = .ok (.lmul, 1) := by decide +kernel
theorem d_P_waste_17 : decode c_P_waste 17 = .ok (.lstore_n 2, 1) := by decide +kernel
theorem d_P_waste_18 : decode c_P_waste 18 = .ok (.lload_n 2, 1) := by decide +kernel
theorem d_P_waste_19 : decode c_P_waste 19 = .ok (.aload_n 0, 1) := by decide +kernel
theorem d_P_waste_20 : decode c_P_waste 20 = .ok (.invokevirtual 173, 3) := by decide +kernel
theorem d_P_waste_23 : decode c_P_waste 23 = .ok (.lsub, 1) := by decide +kernel
theorem d_P_waste_24 : decode c_P_waste 24 = .ok (.lstore 4, 2) := by decide +kernel
theorem d_P_waste_26 : decode c_P_waste 26 = .ok (.lload 4, 2) := by decide +kernel
theorem d_P_waste_28 : decode c_P_waste 28 = .ok (.invokestatic 177, 3) := by decide +kernel
theorem d_P_waste_31 : decode c_P_waste 31 = .ok (.lload_n 2, 1) := by decide +kernel
theorem d_P_waste_32 : decode c_P_waste 32 = .ok (.invokestatic 180, 3) := by decide +kernel
theorem d_P_waste_35 : decode c_P_waste 35 = .ok (.lstore 6, 2) := by decide +kernel
theorem d_P_waste_37 : decode c_P_waste 37 = .ok (.iload_n 1, 1) := by decide +kernel
theorem d_P_waste_38 : decode c_P_waste 38 = .ok (.ifCond .ne 8, 3) := by decide +kernel
theorem d_P_waste_41 : decode c_P_waste 41 = .ok (.lload 4, 2) := by decide +kernel
theorem d_P_waste_43 : decode c_P_waste 43 = .ok (.goto 4, 3) := by decide +kernel
theorem d_P_waste_46 : decode c_P_waste 46 = .ok (.lload_n 2, 1) := by decide +kernel
theorem d_P_waste_47 : decode c_P_waste 47 = .ok (.lload 6, 2) := by decide +kernel
theorem d_P_waste_49 : decode c_P_waste 49 = .ok (.ldiv, 1) := by decide +kernel
theorem d_P_waste_50 : decode c_P_waste 50 = .ok (.lreturn, 1) := by decide +kernel
theorem d_P_mill_0 : decode c_P_mill 0 = .ok (.iload_n 1, 1) := by decide +kernel
theorem d_P_mill_1 : decode c_P_mill 1 = .ok (.ifCond .ge 7, 3) := by decide +kernel
theorem d_P_mill_4 : decode c_P_mill 4 = .ok (.iconst (-1), 1) := by decide +kernel
theorem d_P_mill_5 : decode c_P_mill 5 = .ok (.goto 13, 3) := by decide +kernel
theorem d_P_mill_8 : decode c_P_mill 8 = .ok (.aload_n 0, 1) := by decide +kernel
theorem d_P_mill_9 : decode c_P_mill 9 = .ok (.getfield 41, 3) := by decide +kernel
theorem d_P_mill_12 : decode c_P_mill 12 = .ok (.iload_n 1, 1) := by decide +kernel
theorem d_P_mill_13 : decode c_P_mill 13 = .ok (.iconst 4, 1) := by decide +kernel
theorem d_P_mill_14 : decode c_P_mill 14 = .ok (.idiv, 1) := by decide +kernel
theorem d_P_mill_15 : decode c_P_mill 15 = .ok (.invokevirtual 184, 3) := by decide +kernel
theorem d_P_mill_18 : decode c_P_mill 18 = .ok (.istore_n 3, 1) := by decide +kernel
theorem d_P_mill_19 : decode c_P_mill 19 = .ok (.iload_n 3, 1) := by decide +kernel
theorem d_P_mill_20 : decode c_P_mill 20 = .ok (.iconst (-1), 1) := by decide +kernel
theorem d_P_mill_21 : decode c_P_mill 21 = .ok (.if_icmp .ne 13, 3) := by decide +kernel
theorem d_P_mill_24 : decode c_P_mill 24 = .ok (.new 128, 3) := by decide +kernel
theorem d_P_mill_27 : decode c_P_mill 27 = .ok (.dup, 1) := by decide +kernel
theorem d_P_mill_28 : decode c_P_mill 28 = .ok (.ldc 188, 2) := by decide +kernel
theorem d_P_mill_30 : decode c_P_mill 30 = .ok (.invokespecial 132, 3) := by decide +kernel
theorem d_P_mill_33 : decode c_P_mill 33 = .ok (.athrow, 1) := by decide +kernel
theorem d_P_mill_34 : decode c_P_mill 34 = .ok (.iload_n 2, 1) := by decide +kernel
theorem d_P_mill_35 : decode c_P_mill 35 = .ok (.invokestatic 139, 3) := by decide +kernel
theorem d_P_mill_38 : decode c_P_mill 38 = .ok (.aload_n 0, 1) := by decide +kernel
theorem d_P_mill_39 : decode c_P_mill 39 = .ok (.getfield 41, 3) := by decide +kernel
theorem d_P_mill_42 : decode c_P_mill 42 = .ok (.getfield 106, 3) := by decide +kernel
theorem d_P_mill_45 : decode c_P_mill 45 = .ok (.iload_n 3, 1) := by decide +kernel
theorem d_P_mill_46 : decode c_P_mill 46 = .ok (.iaload, 1) := by decide +kernel
theorem d_P_mill_47 : decode c_P_mill 47 = .ok (.istore 4, 2) := by decide +kernel
theorem d_P_mill_49 : decode c_P_mill 49 = .ok (.iload_n 1, 1) := by decide +kernel
theorem d_P_mill_50 : decode c_P_mill 50 = .ok (.iconst 4, 1) := by decide +kernel
theorem d_P_mill_51 : decode c_P_mill 51 = .ok (.irem, 1) := by decide +kernel
theorem d_P_mill_52 : decode c_P_mill 52 = .ok (.istore 5, 2) := by decide +kernel
theorem d_P_mill_54 : decode c_P_mill 54 = .ok (.iload_n 2, 1) := by decide +kernel
theorem d_P_mill_55 : decode c_P_mill 55 = .ok (.ifCond .ne 48, 3) := by decide +kernel
theorem d_P_mill_58 : decode c_P_mill 58 = .ok (.iload 5, 2) := by decide +kernel
theorem d_P_mill_60 : decode c_P_mill 60 = .ok (.iconst 1, 1) := by decide +kernel
theorem d_P_mill_61 : decode c_P_mill 61 = .ok (.if_icmp .eq 9, 3) := by decide +kernel
theorem d_P_mill_64 : decode c_P_mill 64 = .ok (.iload 5, 2) := by decide +kernel
theorem d_P_mill_66 : decode c_P_mill 66 = .ok (.iconst 2, 1) := by decide +kernel
theorem d_P_mill_67 : decode c_P_mill 67 = .ok (.if_icmp .ne 7, 3) := by decide +kernel
theorem d_P_mill_70 : decode c_P_mill 70 = .ok (.iconst 1, 1) := by decide +kernel
theorem d_P_mill_71 : decode c_P_mill 71 = .ok (.goto 4, 3) := by decide +kernel
theorem d_P_mill_74 : decode c_P_mill 74 = .ok (.iconst 0, 1) := by decide +kernel
theorem d_P_mill_75 : decode c_P_mill 75 = .ok (.istore 6, 2) := by decide +kernel
theorem d_P_mill_77 : decode c_P_mill 77 = .ok (.aload_n 0, 1) := by decide +kernel
theorem d_P_mill_78 : decode c_P_mill 78 = .ok (.aload_n 0, 1) := by decide +kernel
theorem d_P_mill_79 : decode c_P_mill 79 = .ok (.getfield 41, 3) := by decide +kernel
theorem d_P_mill_82 : decode c_P_mill 82 = .ok (.getfield 113, 3) := by decide +kernel
theorem d_P_mill_85 : decode c_P_mill 85 = .ok (.iload_n 3, 1) := by decide +kernel
theorem d_P_mill_86 : decode c_P_mill 86 = .ok (.laload, 1) := by decide +kernel
theorem d_P_mill_87 : decode c_P_mill 87 = .ok (.aload_n 0, 1) := by decide +kernel
theorem d_P_mill_88 : decode c_P_mill 88 = .ok (.getfield 41, 3) := by decide +kernel
theorem d_P_mill_91 : decode c_P_mill 91 = .ok (.getfield 122, 3) := by decide +kernel
theorem d_P_mill_94 : decode c_P_mill 94 = .ok (.iload 4, 2) := by decide +kernel
theorem d_P_mill_96 : decode c_P_mill 96 = .ok (.laload, 1) := by decide +kernel
theorem d_P_mill_97 : decode c_P_mill 97 = .ok (.iload 6, 2) := by decide +kernel
theorem d_P_mill_99 : decode c_P_mill 99 = .ok (.invokevirtual 190, 3) := by decide +kernel
theorem d_P_mill_102 : decode c_P_mill 102 = .ok (.lreturn, 1) := by decide +kernel
theorem d_P_mill_103 : decode c_P_mill 103 = .ok (.iload 5, 2) := by decide +kernel
theorem d_P_mill_105 : decode c_P_mill 105 = .ok (.iconst 2, 1) := by decide +kernel
theorem d_P_mill_106 : decode c_P_mill 106 = .ok (.if_icmp .eq 9, 3) := by decide +kernel
theorem d_P_mill_109 : decode c_P_mill 109 = .ok (.iload 5, 2) := by decide +kernel
theorem d_P_mill_111 : decode c_P_mill 111 = .ok (.iconst 3, 1) := by decide +kernel
theorem d_P_mill_112 : decode c_P_mill 112 = .ok (.if_icmp .ne 7, 3) := by decide +kernel
theorem d_P_mill_115 : decode c_P_mill 115 = .ok (.iconst 1, 1) := by decide +kernel
theorem d_P_mill_116 : decode c_P_mill 116 = .ok (.goto 4, 3) := by decide +kernel
theorem d_P_mill_119 : decode c_P_mill 119 = .ok (.iconst 0, 1) := by decide +kernel
theorem d_P_mill_120 : decode c_P_mill 120 = .ok (.istore 6, 2) := by decide +kernel
theorem d_P_mill_122 : decode c_P_mill 122 = .ok (.aload_n 0, 1) := by decide +kernel
theorem d_P_mill_123 : decode c_P_mill 123 = .ok (.aload_n 0, 1) := by decide +kernel
theorem d_P_mill_124 : decode c_P_mill 124 = .ok (.getfield 41, 3) := by decide +kernel
theorem d_P_mill_127 : decode c_P_mill 127 = .ok (.getfield 116, 3) := by decide +kernel
theorem d_P_mill_130 : decode c_P_mill 130 = .ok (.iload 4, 2) := by decide +kernel
theorem d_P_mill_132 : decode c_P_mill 132 = .ok (.laload, 1) := by decide +kernel
theorem d_P_mill_133 : decode c_P_mill 133 = .ok (.aload_n 0, 1) := by decide +kernel
theorem d_P_mill_134 : decode c_P_mill 134 = .ok (.getfield 41, 3) := by decide +kernel
theorem d_P_mill_137 : decode c_P_mill 137 = .ok (.getfield 125, 3) := by decide +kernel
theorem d_P_mill_140 : decode c_P_mill 140 = .ok (.iload 4, 2) := by decide +kernel
theorem d_P_mill_142 : decode c_P_mill 142 = .ok (.laload, 1) := by decide +kernel
theorem d_P_mill_143 : decode c_P_mill 143 = .ok (.iload 6, 2) := by decide +kernel
theorem d_P_mill_145 : decode c_P_mill 145 = .ok (.invokevirtual 190, 3) := by decide +kernel
theorem d_P_mill_148 : decode c_P_mill 148 = .ok (.lreturn, 1) := by decide +kernel
theorem d_P_radius_0 : decode c_P_radius 0 = .ok (.lload_n 1, 1) := by decide +kernel
theorem d_P_radius_1 : decode c_P_radius 1 = .ok (.invokestatic 53, 3) := by decide +kernel
theorem d_P_radius_4 : decode c_P_radius 4 = .ok (.aload_n 0, 1) := by decide +kernel
theorem d_P_radius_5 : decode c_P_radius 5 = .ok (.getfield 194, 3) := by decide +kernel
theorem d_P_radius_8 : decode c_P_radius 8 = .ok (.lload_n 1, 1) := by decide +kernel
theorem d_P_radius_9 : decode c_P_radius 9 = .ok (.lcmp, 1) := by decide +kernel
theorem d_P_radius_10 : decode c_P_radius 10 = .ok (.ifCond .eq 7, 3) := by decide +kernel
theorem d_P_radius_13 : decode c_P_radius 13 = .ok (.iconst 1, 1) := by decide +kernel
theorem d_P_radius_14 : decode c_P_radius 14 = .ok (.goto 4, 3) := by decide +kernel
theorem d_P_radius_17 : decode c_P_radius 17 = .ok (.iconst 0, 1) := by decide +kernel
theorem d_P_radius_18 : decode c_P_radius 18 = .ok (.istore_n 3, 1) := by decide +kernel
theorem d_P_radius_19 : decode c_P_radius 19 = .ok (.aload_n 0, 1) := by decide +kernel
theorem d_P_radius_20 : decode c_P_radius 20 = .ok (.lload_n 1, 1) := by decide +kernel
theorem d_P_radius_21 : decode c_P_radius 21 = .ok (.putfield 194, 3) := by decide +kernel
theorem d_P_radius_24 : decode c_P_radius 24 = .ok (.iload_n 3, 1) := by decide +kernel
theorem d_P_radius_25 : decode c_P_radius 25 = .ok (.ireturn, 1) := by decide +kernel
theorem d_P_bad_0 : decode c_P_bad 0 = .ok (.aload_n 0, 1) := by decide +kernel
theorem d_P_bad_1 : decode c_P_bad 1 = .ok (.iload_n 1, 1) := by decide +kernel
theorem d_P_bad_2 : decode c_P_bad 2 = .ok (.invokevirtual 103, 3) := by decide +kernel
theorem d_P_bad_5 : decode c_P_bad 5 = .ok (.aload_n 0, 1) := by decide +kernel
theorem d_P_bad_6 : decode c_P_bad 6 = .ok (.getfield 41, 3) := by decide +kernel
theorem d_P_bad_9 : decode c_P_bad 9 = .ok (.getfield 197, 3) := by decide +kernel
theorem d_P_bad_12 : decode c_P_bad 12 = .ok (.iload_n 1, 1) := by decide +kernel
theorem d_P_bad_13 : decode c_P_bad 13 = .ok (.baload, 1) := by decide +kernel
theorem d_P_bad_14 : decode c_P_bad 14 = .ok (.iload_n 2, 1) := by decide +kernel
theorem d_P_bad_15 : decode c_P_bad 15 = .ok (.if_icmp .eq 7, 3) := by decide +kernel
theorem d_P_bad_18 : decode c_P_bad 18 = .ok (.iconst 1, 1) := by decide +kernel
theorem d_P_bad_19 : decode c_P_bad 19 = .ok (.goto 4, 3) := by decide +kernel
theorem d_P_bad_22 : decode c_P_bad 22 = .ok (.iconst 0, 1) := by decide +kernel
theorem d_P_bad_23 : decode c_P_bad 23 = .ok (.istore_n 3, 1) := by decide +kernel
theorem d_P_bad_24 : decode c_P_bad 24 = .ok (.aload_n 0, 1) := by decide +kernel
theorem d_P_bad_25 : decode c_P_bad 25 = .ok (.getfield 41, 3) := by decide +kernel
theorem d_P_bad_28 : decode c_P_bad 28 = .ok (.getfield 197, 3) := by decide +kernel
theorem d_P_bad_31 : decode c_P_bad 31 = .ok (.iload_n 1, 1) := by decide +kernel
theorem d_P_bad_32 : decode c_P_bad 32 = .ok (.iload_n 2, 1) := by decide +kernel
theorem d_P_bad_33 : decode c_P_bad 33 = .ok (.bastore, 1) := by decide +kernel
theorem d_P_bad_34 : decode c_P_bad 34 = .ok (.iload_n 3, 1) := by decide +kernel
theorem d_P_bad_35 : decode c_P_bad 35 = .ok (.ireturn, 1) := by decide +kernel
theorem d_P_rail_0 : decode c_P_rail 0 = .ok (.iload_n 1, 1) := by decide +kernel
theorem d_P_rail_1 : decode c_P_rail 1 = .ok (.invokestatic 136, 3) := by decide +kernel
theorem d_P_rail_4 : decode c_P_rail 4 = .ok (.lload_n 2, 1) := by decide +kernel
theorem d_P_rail_5 : decode c_P_rail 5 = .ok (.invokestatic 53, 3) := by decide +kernel
theorem d_P_rail_8 : decode c_P_rail 8 = .ok (.aload_n 0, 1) := by decide +kernel
theorem d_P_rail_9 : decode c_P_rail 9 = .ok (.getfield 27, 3) := by decide +kernel
theorem d_P_rail_12 : decode c_P_rail 12 = .ok (.iload_n 1, 1) := by decide +kernel
theorem d_P_rail_13 : decode c_P_rail 13 = .ok (.laload, 1) := by decide +kernel
theorem d_P_rail_14 : decode c_P_rail 14 = .ok (.lload_n 2, 1) := by decide +kernel
theorem d_P_rail_15 : decode c_P_rail 15 = .ok (.lcmp, 1) := by decide +kernel
theorem d_P_rail_16 : decode c_P_rail 16 = .ok (.ifCond .eq 7, 3) := by decide +kernel
theorem d_P_rail_19 : decode c_P_rail 19 = .ok (.iconst 1, 1) := by decide +kernel
theorem d_P_rail_20 : decode c_P_rail 20 = .ok (.goto 4, 3) := by decide +kernel
theorem d_P_rail_23 : decode c_P_rail 23 = .ok (.iconst 0, 1) := by decide +kernel
theorem d_P_rail_24 : decode c_P_rail 24 = .ok (.istore 4, 2) := by decide +kernel
theorem d_P_rail_26 : decode c_P_rail 26 = .ok (.aload_n 0, 1) := by decide +kernel
theorem d_P_rail_27 : decode c_P_rail 27 = .ok (.getfield 27, 3) := by decide +kernel
theorem d_P_rail_30 : decode c_P_rail 30 = .ok (.iload_n 1, 1) := by decide +kernel
theorem d_P_rail_31 : decode c_P_rail 31 = .ok (.lload_n 2, 1) := by decide +kernel
theorem d_P_rail_32 : decode c_P_rail 32 = .ok (.lastore, 1) := by decide +kernel
theorem d_P_rail_33 : decode c_P_rail 33 = .ok (.iload 4, 2) := by decide +kernel
theorem d_P_rail_35 : decode c_P_rail 35 = .ok (.ireturn, 1) := by decide +kernel
theorem d_P_overlaps_0 : decode c_P_overlaps 0 = .ok (.iconst 0, 1) := by decide +kernel
theorem d_P_overlaps_1 : decode c_P_overlaps 1 = .ok (.ireturn, 1) := by decide +kernel
theorem d_P_order_0 : decode c_P_order 0 = .ok (.aload_n 0, 1) := by decide +kernel
theorem d_P_order_1 : decode c_P_order 1 = .ok (.getfield 41, 3) := by decide +kernel
theorem d_P_order_4 : decode c_P_order 4 = .ok (.iload_n 1, 1) := by decide +kernel
theorem d_P_order_5 : decode c_P_order 5 = .ok (.invokevirtual 184, 3) := by decide +kernel
theorem d_P_order_8 : decode c_P_order 8 = .ok (.ireturn, 1) := by decide +kernel
theorem d_P_wants_0 : decode c_P_wants 0 = .ok (.aload_n 0, 1) := by decide +kernel
theorem d_P_wants_1 : decode c_P_wants 1 = .ok (.iload_n 1, 1) := by decide +kernel
theorem d_P_wants_2 : decode c_P_wants 2 = .ok (.invokevirtual 49, 3) := by decide +kernel
theorem d_P_wants_5 : decode c_P_wants 5 = .ok (.iload_n 2, 1) := by decide +kernel
theorem d_P_wants_6 : decode c_P_wants 6 = .ok (.i2l, 1) := by decide +kernel
theorem d_P_wants_7 : decode c_P_wants 7 = .ok (.lconst 0, 1) := by decide +kernel
theorem d_P_wants_8 : decode c_P_wants 8 = .ok (.ldc2_w 201, 3) := by decide +kernel
theorem d_P_wants_11 : decode c_P_wants 11 = .ok (.invokestatic 63, 3) := by decide +kernel
theorem d_P_wants_14 : decode c_P_wants 14 = .ok (.ifCond .ne 13, 3) := by decide +kernel
theorem d_P_wants_17 : decode c_P_wants 17 = .ok (.new 69, 3) := by decide +kernel
theorem d_P_wants_20 : decode c_P_wants 20 = .ok (.dup, 1) := by decide +kernel
theorem d_P_wants_21 : decode c_P_wants 21 = .ok (.ldc 203, 2) := by decide +kernel
theorem d_P_wants_23 : decode c_P_wants 23 = .ok (.invokespecial 73, 3) := by decide +kernel
theorem d_P_wants_26 : decode c_P_wants 26 = .ok (.athrow, 1) := by decide +kernel
theorem d_P_wants_27 : decode c_P_wants 27 = .ok (.aload_n 0, 1) := by decide +kernel
theorem d_P_wants_28 : decode c_P_wants 28 = .ok (.getfield 22, 3) := by decide +kernel
theorem d_P_wants_31 : decode c_P_wants 31 = .ok (.iload_n 1, 1) := by decide +kernel
theorem d_P_wants_32 : decode c_P_wants 32 = .ok (.aaload, 1) := by decide +kernel
theorem d_P_wants_33 : decode c_P_wants 33 = .ok (.getfield 205, 3) := by decide +kernel
theorem d_P_wants_36 : decode c_P_wants 36 = .ok (.iload_n 2, 1) := by decide +kernel
theorem d_P_wants_37 : decode c_P_wants 37 = .ok (.if_icmp .eq 7, 3) := by decide +kernel
theorem d_P_wants_40 : decode c_P_wants 40 = .ok (.iconst 1, 1) := by decide +kernel
theorem d_P_wants_41 : decode c_P_wants 41 = .ok (.goto 4, 3) := by decide +kernel
theorem d_P_wants_44 : decode c_P_wants 44 = .ok (.iconst 0, 1) := by decide +kernel
theorem d_P_wants_45 : decode c_P_wants 45 = .ok (.istore_n 3, 1) := by decide +kernel
theorem d_P_wants_46 : decode c_P_wants 46 = .ok (.aload_n 0, 1) := by decide +kernel
theorem d_P_wants_47 : decode c_P_wants 47 = .ok (.getfield 22, 3) := by decide +kernel
theorem d_P_wants_50 : decode c_P_wants 50 = .ok (.iload_n 1, 1) := by decide +kernel
theorem d_P_wants_51 : decode c_P_wants 51 = .ok (.aaload, 1) := by decide +kernel
theorem d_P_wants_52 : decode c_P_wants 52 = .ok (.iload_n 2, 1) := by decide +kernel
theorem d_P_wants_53 : decode c_P_wants 53 = .ok (.putfield 205, 3) := by decide +kernel
theorem d_P_wants_56 : decode c_P_wants 56 = .ok (.iload_n 3, 1) := by decide +kernel
theorem d_P_wants_57 : decode c_P_wants 57 = .ok (.ireturn, 1) := by decide +kernel
theorem d_P_asPanelLength_0 : decode c_P_asPanelLength 0 = .ok (.lconst 1, 1) := by decide +kernel
theorem d_P_asPanelLength_1 : decode c_P_asPanelLength 1 = .ok (.lload_n 0, 1) := by decide +kernel
theorem d_P_asPanelLength_2 : decode c_P_asPanelLength 2 = .ok (.ldc2_w 208, 3) := by decide +kernel
theorem d_P_asPanelLength_5 : decode c_P_asPanelLength 5 = .ok (.invokestatic 210, 3) := by decide +kernel
theorem d_P_asPanelLength_8 : decode c_P_asPanelLength 8 = .ok (.invokestatic 212, 3) := by decide +kernel
theorem d_P_asPanelLength_11 : decode c_P_asPanelLength 11 = .ok (.lreturn, 1) := by decide +kernel
theorem d_P_isWithin_0 : decode c_P_isWithin 0 = .ok (.lload_n 0, 1) := by decide +kernel
theorem d_P_isWithin_1 : decode c_P_isWithin 1 = .ok (.lload_n 2, 1) := by decide +kernel
theorem d_P_isWithin_2 : decode c_P_isWithin 2 = .ok (.lcmp, 1) := by decide +kernel
theorem d_P_isWithin_3 : decode c_P_isWithin 3 = .ok (.ifCond .lt 14, 3) := by decide +kernel
theorem d_P_isWithin_6 : decode c_P_isWithin 6 = .ok (.lload_n 0, 1) := by decide +kernel
theorem d_P_isWithin_7 : decode c_P_isWithin 7 = .ok (.lload 4, 2) := by decide +kernel
theorem d_P_isWithin_9 : decode c_P_isWithin 9 = .ok (.lcmp, 1) := by decide +kernel
theorem d_P_isWithin_10 : decode c_P_isWithin 10 = .ok (.ifCond .gt 7, 3) := by decide +kernel
theorem d_P_isWithin_13 : decode c_P_isWithin 13 = .ok (.iconst 1, 1) := by decide +kernel
theorem d_P_isWithin_14 : decode c_P_isWithin 14 = .ok (.goto 4, 3) := by decide +kernel
theorem d_P_isWithin_17 : decode c_P_isWithin 17 = .ok (.iconst 0, 1) := by decide +kernel
theorem d_P_isWithin_18 : decode c_P_isWithin 18 = .ok (.ireturn, 1) := by decide +kernel
theorem d_P_checkLength_0 : decode c_P_checkLength 0 = .ok (.lload_n 0, 1) := by decide +kernel
theorem d_P_checkLength_1 : decode c_P_checkLength 1 = .ok (.lconst 0, 1) := by decide +kernel
theorem d_P_checkLength_2 : decode c_P_checkLength 2 = .ok (.ldc2_w 208, 3) := by decide +kernel
theorem d_P_checkLength_5 : decode c_P_checkLength 5 = .ok (.invokestatic 63, 3) := by decide +kernel
theorem d_P_checkLength_8 : decode c_P_checkLength 8 = .ok (.ifCond .ne 13, 3) := by decide +kernel
theorem d_P_checkLength_11 : decode c_P_checkLength 11 = .ok (.new 69, 3) := by decide +kernel
theorem d_P_checkLength_14 : decode c_P_checkLength 14 = .ok (.dup, 1) := by decide +kernel
theorem d_P_checkLength_15 : decode c_P_checkLength 15 = .ok (.ldc 215, 2) := by decide +kernel
theorem d_P_checkLength_17 : decode c_P_checkLength 17 = .ok (.invokespecial 73, 3) := by decide +kernel
theorem d_P_checkLength_20 : decode c_P_checkLength 20 = .ok (.athrow, 1) := by decide +kernel
theorem d_P_checkLength_21 : decode c_P_checkLength 21 = .ok (.return_, 1) := by decide +kernel
theorem d_P_checkSide_0 : decode c_P_checkSide 0 = .ok (.iload_n 0, 1) := by decide +kernel
theorem d_P_checkSide_1 : decode c_P_checkSide 1 = .ok (.i2l, 1) := by decide +kernel
theorem d_P_checkSide_2 : decode c_P_checkSide 2 = .ok (.lconst 0, 1) := by decide +kernel
theorem d_P_checkSide_3 : decode c_P_checkSide 3 = .ok (.ldc2_w 217, 3) := by decide +kernel
theorem d_P_checkSide_6 : decode c_P_checkSide 6 = .ok (.invokestatic 63, 3) := by decide +kernel
theorem d_P_checkSide_9 : decode c_P_checkSide 9 = .ok (.ifCond .ne 13, 3) := by decide +kernel
theorem d_P_checkSide_12 : decode c_P_checkSide 12 = .ok (.new 128, 3) := by decide +kernel
theorem d_P_checkSide_15 : decode c_P_checkSide 15 = .ok (.dup, 1) := by decide +kernel
theorem d_P_checkSide_16 : decode c_P_checkSide 16 = .ok (.ldc 219, 2) := by decide +kernel
theorem d_P_checkSide_18 : decode c_P_checkSide 18 = .ok (.invokespecial 132, 3) := by decide +kernel
theorem d_P_checkSide_21 : decode c_P_checkSide 21 = .ok (.athrow, 1) := by decide +kernel
theorem d_P_checkSide_22 : decode c_P_checkSide 22 = .ok (.return_, 1) := by decide +kernel
theorem d_P_checkOneOfTwo_0 : decode c_P_checkOneOfTwo 0 = .ok (.iload_n 0, 1) := by decide +kernel
theorem d_P_checkOneOfTwo_1 : decode c_P_checkOneOfTwo 1 = .ok (.i2l, 1) := by decide +kernel
theorem d_P_checkOneOfTwo_2 : decode c_P_checkOneOfTwo 2 = .ok (.lconst 0, 1) := by decide +kernel
theorem d_P_checkOneOfTwo_3 : decode c_P_checkOneOfTwo 3 = .ok (.lconst 1, 1) := by decide +kernel
theorem d_P_checkOneOfTwo_4 : decode c_P_checkOneOfTwo 4 = .ok (.invokestatic 63, 3) := by decide +kernel
theorem d_P_checkOneOfTwo_7 : decode c_P_checkOneOfTwo 7 = .ok (.ifCond .ne 13, 3) := by decide +kernel
theorem d_P_checkOneOfTwo_10 : decode c_P_checkOneOfTwo 10 = .ok (.new 128, 3) := by decide +kernel
theorem d_P_checkOneOfTwo_13 : decode c_P_checkOneOfTwo 13 = .ok (.dup, 1) := by decide +kernel
theorem d_P_checkOneOfTwo_14 : decode c_P_checkOneOfTwo 14 = .ok (.ldc 221, 2) := by decide +kernel
theorem d_P_checkOneOfTwo_16 : decode c_P_checkOneOfTwo 16 = .ok (.invokespecial 132, 3) := by decide +kernel
theorem d_P_checkOneOfTwo_19 : decode c_P_checkOneOfTwo 19 = .ok (.athrow, 1) := by decide +kernel
theorem d_P_checkOneOfTwo_20 : decode c_P_checkOneOfTwo 20 = .ok (.return_, 1) := by decide +kernel
theorem d_P_checkBoard_0 : decode c_P_checkBoard 0 = .ok (.iload_n 1, 1) := by decide +kernel
theorem d_P_checkBoard_1 : decode c_P_checkBoard 1 = .ok (.i2l, 1) := by decide +kernel
theorem d_P_checkBoard_2 : decode c_P_checkBoard 2 = .ok (.lconst 0, 1) := by decide +kernel
theorem d_P_checkBoard_3 : decode c_P_checkBoard 3 = .ok (.aload_n 0, 1) := by decide +kernel
theorem d_P_checkBoard_4 : decode c_P_checkBoard 4 = .ok (.getfield 45, 3) := by decide +kernel
theorem d_P_checkBoard_7 : decode c_P_checkBoard 7 = .ok (.iconst 1, 1) := by decide +kernel
theorem d_P_checkBoard_8 : decode c_P_checkBoard 8 = .ok (.isub, 1) := by decide +kernel
theorem d_P_checkBoard_9 : decode c_P_checkBoard 9 = .ok (.i2l, 1) := by decide +kernel
theorem d_P_checkBoard_10 : decode c_P_checkBoard 10 = .ok (.invokestatic 63, 3) := by decide +kernel
theorem d_P_checkBoard_13 : decode c_P_checkBoard 13 = .ok (.ifCond .ne 13, 3) := by decide +kernel
theorem d_P_checkBoard_16 : decode c_P_checkBoard 16 = .ok (.new 128, 3) := by decide +kernel
theorem d_P_checkBoard_19 : decode c_P_checkBoard 19 = .ok (.dup, 1) := by decide +kernel
theorem d_P_checkBoard_20 : decode c_P_checkBoard 20 = .ok (.ldc 223, 2) := by decide +kernel
theorem d_P_checkBoard_22 : decode c_P_checkBoard 22 = .ok (.invokespecial 132, 3) := by decide +kernel
theorem d_P_checkBoard_25 : decode c_P_checkBoard 25 = .ok (.athrow, 1) := by decide +kernel
theorem d_P_checkBoard_26 : decode c_P_checkBoard 26 = .ok (.return_, 1) := by decide +kernel
theorem d_P_checkCopy_0 : decode c_P_checkCopy 0 = .ok (.iload_n 1, 1) := by decide +kernel
theorem d_P_checkCopy_1 : decode c_P_checkCopy 1 = .ok (.i2l, 1) := by decide +kernel
theorem d_P_checkCopy_2 : decode c_P_checkCopy 2 = .ok (.lconst 0, 1) := by decide +kernel
theorem d_P_checkCopy_3 : decode c_P_checkCopy 3 = .ok (.aload_n 0, 1) := by decide +kernel
theorem d_P_checkCopy_4 : decode c_P_checkCopy 4 = .ok (.getfield 41, 3) := by decide +kernel
theorem d_P_checkCopy_7 : decode c_P_checkCopy 7 = .ok (.getfield 100, 3) := by decide +kernel
theorem d_P_checkCopy_10 : decode c_P_checkCopy 10 = .ok (.iconst 1, 1) := by decide +kernel
theorem d_P_checkCopy_11 : decode c_P_checkCopy 11 = .ok (.isub, 1) := by decide +kernel
theorem d_P_checkCopy_12 : decode c_P_checkCopy 12 = .ok (.i2l, 1) := by decide +kernel
theorem d_P_checkCopy_13 : decode c_P_checkCopy 13 = .ok (.invokestatic 63, 3) := by decide +kernel
theorem d_P_checkCopy_16 : decode c_P_checkCopy 16 = .ok (.ifCond .ne 13, 3) := by decide +kernel
theorem d_P_checkCopy_19 : decode c_P_checkCopy 19 = .ok (.new 128, 3) := by decide +kernel
theorem d_P_checkCopy_22 : decode c_P_checkCopy 22 = .ok (.dup, 1) := by decide +kernel
theorem d_P_checkCopy_23 : decode c_P_checkCopy 23 = .ok (.ldc 225, 2) := by decide +kernel
theorem d_P_checkCopy_25 : decode c_P_checkCopy 25 = .ok (.invokespecial 132, 3) := by decide +kernel
theorem d_P_checkCopy_28 : decode c_P_checkCopy 28 = .ok (.athrow, 1) := by decide +kernel
theorem d_P_checkCopy_29 : decode c_P_checkCopy 29 = .ok (.return_, 1) := by decide +kernel
theorem d_P_prepareSearch_0 : decode c_P_prepareSearch 0 = .ok (.aload_n 0, 1) := by decide +kernel
theorem d_P_prepareSearch_1 : decode c_P_prepareSearch 1 = .ok (.getfield 13, 3) := by decide +kernel
theorem d_P_prepareSearch_4 : decode c_P_prepareSearch 4 = .ok (.aload_n 0, 1) := by decide +kernel
theorem d_P_prepareSearch_5 : decode c_P_prepareSearch 5 = .ok (.getfield 27, 3) := by decide +kernel
theorem d_P_prepareSearch_8 : decode c_P_prepareSearch 8 = .ok (.iconst 0, 1) := by decide +kernel
theorem d_P_prepareSearch_9 : decode c_P_prepareSearch 9 = .ok (.laload, 1) := by decide +kernel
theorem d_P_prepareSearch_10 : decode c_P_prepareSearch 10 = .ok (.lsub, 1) := by decide +kernel
theorem d_P_prepareSearch_11 : decode c_P_prepareSearch 11 = .ok (.aload_n 0, 1) := by decide +kernel
theorem d_P_prepareSearch_12 : decode c_P_prepareSearch 12 = .ok (.getfield 27, 3) := by decide +kernel
theorem d_P_prepareSearch_15 : decode c_P_prepareSearch 15 = .ok (.iconst 2, 1) := by decide +kernel
theorem d_P_prepareSearch_16 : decode c_P_prepareSearch 16 = .ok (.laload, 1) := by decide +kernel
theorem d_P_prepareSearch_17 : decode c_P_prepareSearch 17 = .ok (.lsub, 1) := by decide +kernel
theorem d_P_prepareSearch_18 : decode c_P_prepareSearch 18 = .ok (.lstore_n 2, 1) := by decide +kernel
theorem d_P_prepareSearch_19 : decode c_P_prepareSearch 19 = .ok (.aload_n 0, 1) := by decide +kernel
theorem d_P_prepareSearch_20 : decode c_P_prepareSearch 20 = .ok (.getfield 34, 3) := by decide +kernel
theorem d_P_prepareSearch_23 : decode c_P_prepareSearch 23 = .ok (.aload_n 0, 1) := by decide +kernel
theorem d_P_prepareSearch_24 : decode c_P_prepareSearch 24 = .ok (.getfield 133, 3) := by decide +kernel
theorem d_P_prepareSearch_27 : decode c_P_prepareSearch 27 = .ok (.invokevirtual 227, 3) := by decide +kernel
theorem d_P_prepareSearch_30 : decode c_P_prepareSearch 30 = .ok (.iconst 0, 1) := by decide +kernel
theorem d_P_prepareSearch_31 : decode c_P_prepareSearch 31 = .ok (.istore 4, 2) := by decide +kernel
theorem d_P_prepareSearch_33 : decode c_P_prepareSearch 33 = .ok (.iload 4, 2) := by decide +kernel
theorem d_P_prepareSearch_35 : decode c_P_prepareSearch 35 = .ok (.iload_n 1, 1) := by decide +kernel
theorem d_P_prepareSearch_36 : decode c_P_prepareSearch 36 = .ok (.if_icmp .ge 96, 3) := by decide +kernel
theorem d_P_prepareSearch_39 : decode c_P_prepareSearch 39 = .ok (.aload_n 0, 1) := by decide +kernel
theorem d_P_prepareSearch_40 : decode c_P_prepareSearch 40 = .ok (.getfield 22, 3) := by decide +kernel
theorem d_P_prepareSearch_43 : decode c_P_prepareSearch 43 = .ok (.iload 4, 2) := by decide +kernel
theorem d_P_prepareSearch_45 : decode c_P_prepareSearch 45 = .ok (.aaload, 1) := by decide +kernel
theorem d_P_prepareSearch_46 : decode c_P_prepareSearch 46 = .ok (.astore 5, 2) := by decide +kernel
theorem d_P_prepareSearch_48 : decode c_P_prepareSearch 48 = .ok (.aload 5, 2) := by decide +kernel
theorem d_P_prepareSearch_50 : decode c_P_prepareSearch 50 = .ok (.invokevirtual 230, 3) := by decide +kernel
theorem d_P_prepareSearch_53 : decode c_P_prepareSearch 53 = .ok (.ifCond .eq 73, 3) := by decide +kernel
theorem d_P_prepareSearch_56 : decode c_P_prepareSearch 56 = .ok (.aload_n 0, 1) := by decide +kernel
theorem d_P_prepareSearch_57 : decode c_P_prepareSearch 57 = .ok (.getfield 34, 3) := by decide +kernel
theorem d_P_prepareSearch_60 : decode c_P_prepareSearch 60 = .ok (.getfield 234, 3) := by decide +kernel
theorem d_P_prepareSearch_63 : decode c_P_prepareSearch 63 = .ok (.iload 4, 2) := by decide +kernel
theorem d_P_prepareSearch_65 : decode c_P_prepareSearch 65 = .ok (.aload 5, 2) := by decide +kernel
theorem d_P_prepareSearch_67 : decode c_P_prepareSearch 67 = .ok (.getfield 205, 3) := by decide +kernel
theorem d_P_prepareSearch_70 : decode c_P_prepareSearch 70 = .ok (.iastore, 1) := by decide +kernel
theorem d_P_prepareSearch_71 : decode c_P_prepareSearch 71 = .ok (.iconst 0, 1) := by decide +kernel
theorem d_P_prepareSearch_72 : decode c_P_prepareSearch 72 = .ok (.istore 6, 2) := by decide +kernel
theorem d_P_prepareSearch_74 : decode c_P_prepareSearch 74 = .ok (.iload 6, 2) := by decide +kernel
theorem d_P_prepareSearch_76 : decode c_P_prepareSearch 76 = .ok (.iconst 2, 1) := by decide +kernel
theorem d_P_prepareSearch_77 : decode c_P_prepareSearch 77 = .ok (.if_icmp .ge 49, 3) := by decide +kernel
theorem d_P_prepareSearch_80 : decode c_P_prepareSearch 80 = .ok (.lload_n 2, 1) := by decide +kernel
theorem d_P_prepareSearch_81 : decode c_P_prepareSearch 81 = .ok (.aload 5, 2) := by decide +kernel
theorem d_P_prepareSearch_83 : decode c_P_prepareSearch 83 = .ok (.iload 6, 2) := by decide +kernel
theorem d_P_prepareSearch_85 : decode c_P_prepareSearch 85 = .ok (.invokevirtual 237, 3) := by decide +kernel
theorem d_P_prepareSearch_88 : decode c_P_prepareSearch 88 = .ok (.aload_n 0, 1) := by decide +kernel
theorem d_P_prepareSearch_89 : decode c_P_prepareSearch 89 = .ok (.getfield 133, 3) := by decide +kernel
theorem d_P_prepareSearch_92 : decode c_P_prepareSearch 92 = .ok (.invokestatic 241, 3) := by decide +kernel
theorem d_P_prepareSearch_95 : decode c_P_prepareSearch 95 = .ok (.istore 7, 2) := by decide +kernel
theorem d_P_prepareSearch_97 : decode c_P_prepareSearch 97 = .ok (.aload_n 0, 1) := by decide +kernel
theorem d_P_prepareSearch_98 : decode c_P_prepareSearch 98 = .ok (.getfield 34, 3) := by decide +kernel
theorem d_P_prepareSearch_101 : decode c_P_prepareSearch 101 = .ok (.iload 4, 2) := by decide +kernel
theorem d_P_prepareSearch_103 : decode c_P_prepareSearch 103 = .ok (.iconst 2, 1) := by decide +kernel
theorem d_P_prepareSearch_104 : decode c_P_prepareSearch 104 = .ok (.imul, 1) := by decide +kernel
theorem d_P_prepareSearch_105 : decode c_P_prepareSearch 105 = .ok (.iload 6, 2) := by decide +kernel
theorem d_P_prepareSearch_107 : decode c_P_prepareSearch 107 = .ok (.iadd, 1) := by decide +kernel
theorem d_P_prepareSearch_108 : decode c_P_prepareSearch 108 = .ok (.iload 7, 2) := by decide +kernel
theorem d_P_prepareSearch_110 : decode c_P_prepareSearch 110 = .ok (.aload 5, 2) := by decide +kernel
theorem d_P_prepareSearch_112 : decode c_P_prepareSearch 112 = .ok (.iload 6, 2) := by decide +kernel
theorem d_P_prepareSearch_114 : decode c_P_prepareSearch 114 = .ok (.invokevirtual 245, 3) := by decide +kernel
theorem d_P_prepareSearch_117 : decode c_P_prepareSearch 117 = .ok (.invokevirtual 248, 3) := by decide +kernel
theorem d_P_prepareSearch_120 : decode c_P_prepareSearch 120 = .ok (.iinc 6 1, 3) := by decide +kernel
theorem d_P_prepareSearch_123 : decode c_P_prepareSearch 123 = .ok (.goto (-49), 3) := by decide +kernel
theorem d_P_prepareSearch_126 : decode c_P_prepareSearch 126 = .ok (.iinc 4 1, 3) := by decide +kernel
theorem d_P_prepareSearch_129 : decode c_P_prepareSearch 129 = .ok (.goto (-96), 3) := by decide +kernel
theorem d_P_prepareSearch_132 : decode c_P_prepareSearch 132 = .ok (.return_, 1) := by decide +kernel
theorem d_P_roomInRow_0 : decode c_P_roomInRow 0 = .ok (.lload_n 2, 1) := by decide +kernel
theorem d_P_roomInRow_1 : decode c_P_roomInRow 1 = .ok (.lload 4, 2) := by decide +kernel
theorem d_P_roomInRow_3 : decode c_P_roomInRow 3 = .ok (.ladd, 1) := by decide +kernel
theorem d_P_roomInRow_4 : decode c_P_roomInRow 4 = .ok (.lstore 6, 2) := by decide +kernel
theorem d_P_roomInRow_6 : decode c_P_roomInRow 6 = .ok (.lload_n 0, 1) := by decide +kernel
theorem d_P_roomInRow_7 : decode c_P_roomInRow 7 = .ok (.lload_n 2, 1) := by decide +kernel
theorem d_P_roomInRow_8 : decode c_P_roomInRow 8 = .ok (.lcmp, 1) := by decide +kernel
theorem d_P_roomInRow_9 : decode c_P_roomInRow 9 = .ok (.ifCond .lt 10, 3) := by decide +kernel
theorem d_P_roomInRow_12 : decode c_P_roomInRow 12 = .ok (.lload 6, 2) := by decide +kernel
theorem d_P_roomInRow_14 : decode c_P_roomInRow 14 = .ok (.lconst 0, 1) := by decide +kernel
theorem d_P_roomInRow_15 : decode c_P_roomInRow 15 = .ok (.lcmp, 1) := by decide +kernel
theorem d_P_roomInRow_16 : decode c_P_roomInRow 16 = .ok (.ifCond .gt 5, 3) := by decide +kernel
theorem d_P_roomInRow_19 : decode c_P_roomInRow 19 = .ok (.iconst 0, 1) := by decide +kernel
theorem d_P_roomInRow_20 : decode c_P_roomInRow 20 = .ok (.ireturn, 1) := by decide +kernel
theorem d_P_roomInRow_21 : decode c_P_roomInRow 21 = .ok (.lload_n 0, 1) := by decide +kernel
theorem d_P_roomInRow_22 : decode c_P_roomInRow 22 = .ok (.lload 4, 2) := by decide +kernel
theorem d_P_roomInRow_24 : decode c_P_roomInRow 24 = .ok (.ladd, 1) := by decide +kernel
theorem d_P_roomInRow_25 : decode c_P_roomInRow 25 = .ok (.lload 6, 2) := by decide +kernel
theorem d_P_roomInRow_27 : decode c_P_roomInRow 27 = .ok (.ldiv, 1) := by decide +kernel
theorem d_P_roomInRow_28 : decode c_P_roomInRow 28 = .ok (.ldc2_w 252, 3) := by decide +kernel
theorem d_P_roomInRow_31 : decode c_P_roomInRow 31 = .ok (.invokestatic 210, 3) := by decide +kernel
theorem d_P_roomInRow_34 : decode c_P_roomInRow 34 = .ok (.l2i, 1) := by decide +kernel
theorem d_P_roomInRow_35 : decode c_P_roomInRow 35 = .ok (.ireturn, 1) := by decide +kernel
theorem d_P_layOutBest_0 : decode c_P_layOutBest 0 = .ok (.aload_n 0, 1) := by decide +kernel
theorem d_P_layOutBest_1 : decode c_P_layOutBest 1 = .ok (.getfield 41, 3) := by decide +kernel
theorem d_P_layOutBest_4 : decode c_P_layOutBest 4 = .ok (.aload_n 0, 1) := by decide +kernel
theorem d_P_layOutBest_5 : decode c_P_layOutBest 5 = .ok (.getfield 27, 3) := by decide +kernel
theorem d_P_layOutBest_8 : decode c_P_layOutBest 8 = .ok (.iconst 0, 1) := by decide +kernel
theorem d_P_layOutBest_9 : decode c_P_layOutBest 9 = .ok (.laload, 1) := by decide +kernel
theorem d_P_layOutBest_10 : decode c_P_layOutBest 10 = .ok (.aload_n 0, 1) := by decide +kernel
theorem d_P_layOutBest_11 : decode c_P_layOutBest 11 = .ok (.getfield 27, 3) := by decide +kernel
theorem d_P_layOutBest_14 : decode c_P_layOutBest 14 = .ok (.iconst 1, 1) := by decide +kernel
theorem d_P_layOutBest_15 : decode c_P_layOutBest 15 = .ok (.laload, 1) := by decide +kernel
theorem d_P_layOutBest_16 : decode c_P_layOutBest 16 = .ok (.aload_n 0, 1) := by decide +kernel
theorem d_P_layOutBest_17 : decode c_P_layOutBest 17 = .ok (.getfield 133, 3) := by decide +kernel
theorem d_P_layOutBest_20 : decode c_P_layOutBest 20 = .ok (.invokevirtual 254, 3) := by decide +kernel
theorem d_P_layOutBest_23 : decode c_P_layOutBest 23 = .ok (.iconst 0, 1) := by decide +kernel
theorem d_P_layOutBest_24 : decode c_P_layOutBest 24 = .ok (.istore_n 1, 1) := by decide +kernel
theorem d_P_layOutBest_25 : decode c_P_layOutBest 25 = .ok (.iload_n 1, 1) := by decide +kernel
theorem d_P_layOutBest_26 : decode c_P_layOutBest 26 = .ok (.aload_n 0, 1) := by decide +kernel
theorem d_P_layOutBest_27 : decode c_P_layOutBest 27 = .ok (.getfield 34, 3) := by decide +kernel
theorem d_P_layOutBest_30 : decode c_P_layOutBest 30 = .ok (.getfield 257, 3) := by decide +kernel
theorem d_P_layOutBest_33 : decode c_P_layOutBest 33 = .ok (.if_icmp .ge 69, 3) := by decide +kernel
theorem d_P_layOutBest_36 : decode c_P_layOutBest 36 = .ok (.aload_n 0, 1) := by decide +kernel
theorem d_P_layOutBest_37 : decode c_P_layOutBest 37 = .ok (.getfield 34, 3) := by decide +kernel
theorem d_P_layOutBest_40 : decode c_P_layOutBest 40 = .ok (.getfield 260, 3) := by decide +kernel
theorem d_P_layOutBest_43 : decode c_P_layOutBest 43 = .ok (.iload_n 1, 1) := by decide +kernel
theorem d_P_layOutBest_44 : decode c_P_layOutBest 44 = .ok (.iaload, 1) := by decide +kernel
theorem d_P_layOutBest_45 : decode c_P_layOutBest 45 = .ok (.istore_n 2, 1) := by decide +kernel
theorem d_P_layOutBest_46 : decode c_P_layOutBest 46 = .ok (.iload_n 2, 1) := by decide +kernel
theorem d_P_layOutBest_47 : decode c_P_layOutBest 47 = .ok (.iconst 2, 1) := by decide +kernel
theorem d_P_layOutBest_48 : decode c_P_layOutBest 48 = .ok (.idiv, 1) := by decide +kernel
theorem d_P_layOutBest_49 : decode c_P_layOutBest 49 = .ok (.istore_n 3, 1) := by decide +kernel
theorem d_P_layOutBest_50 : decode c_P_layOutBest 50 = .ok (.iload_n 2, 1) := by decide +kernel
theorem d_P_layOutBest_51 : decode c_P_layOutBest 51 = .ok (.iconst 2, 1) := by decide +kernel
theorem d_P_layOutBest_52 : decode c_P_layOutBest 52 = .ok (.irem, 1) := by decide +kernel
theorem d_P_layOutBest_53 : decode c_P_layOutBest 53 = .ok (.istore 4, 2) := by decide +kernel
theorem d_P_layOutBest_55 : decode c_P_layOutBest 55 = .ok (.aload_n 0, 1) := by decide +kernel
theorem d_P_layOutBest_56 : decode c_P_layOutBest 56 = .ok (.getfield 41, 3) := by decide +kernel
theorem d_P_layOutBest_59 : decode c_P_layOutBest 59 = .ok (.iload_n 3, 1) := by decide +kernel
theorem d_P_layOutBest_60 : decode c_P_layOutBest 60 = .ok (.iload 4, 2) := by decide +kernel
theorem d_P_layOutBest_62 : decode c_P_layOutBest 62 = .ok (.aload_n 0, 1) := by decide +kernel
theorem d_P_layOutBest_63 : decode c_P_layOutBest 63 = .ok (.getfield 22, 3) := by decide +kernel
theorem d_P_layOutBest_66 : decode c_P_layOutBest 66 = .ok (.iload_n 3, 1) := by decide +kernel
theorem d_P_layOutBest_67 : decode c_P_layOutBest 67 = .ok (.aaload, 1) := by decide +kernel
theorem d_P_layOutBest_68 : decode c_P_layOutBest 68 = .ok (.iload 4, 2) := by decide +kernel
theorem d_P_layOutBest_70 : decode c_P_layOutBest 70 = .ok (.invokevirtual 237, 3) := by decide +kernel
theorem d_P_layOutBest_73 : decode c_P_layOutBest 73 = .ok (.aload_n 0, 1) := by decide +kernel
theorem d_P_layOutBest_74 : decode c_P_layOutBest 74 = .ok (.getfield 22, 3) := by decide +kernel
theorem d_P_layOutBest_77 : decode c_P_layOutBest 77 = .ok (.iload_n 3, 1) := by decide +kernel
theorem d_P_layOutBest_78 : decode c_P_layOutBest 78 = .ok (.aaload, 1) := by decide +kernel
theorem d_P_layOutBest_79 : decode c_P_layOutBest 79 = .ok (.iload 4, 2) := by decide +kernel
theorem d_P_layOutBest_81 : decode c_P_layOutBest 81 = .ok (.invokevirtual 245, 3) := by decide +kernel
theorem d_P_layOutBest_84 : decode c_P_layOutBest 84 = .ok (.aload_n 0, 1) := by decide +kernel
theorem d_P_layOutBest_85 : decode c_P_layOutBest 85 = .ok (.getfield 34, 3) := by decide +kernel
theorem d_P_layOutBest_88 : decode c_P_layOutBest 88 = .ok (.getfield 263, 3) := by decide +kernel
theorem d_P_layOutBest_91 : decode c_P_layOutBest 91 = .ok (.iload_n 1, 1) := by decide +kernel
theorem d_P_layOutBest_92 : decode c_P_layOutBest 92 = .ok (.iaload, 1) := by decide +kernel
theorem d_P_layOutBest_93 : decode c_P_layOutBest 93 = .ok (.invokevirtual 266, 3) := by decide +kernel
theorem d_P_layOutBest_96 : decode c_P_layOutBest 96 = .ok (.iinc 1 1, 3) := by decide +kernel
theorem d_P_layOutBest_99 : decode c_P_layOutBest 99 = .ok (.goto (-74), 3) := by decide +kernel
theorem d_P_layOutBest_102 : decode c_P_layOutBest 102 = .ok (.return_, 1) := by decide +kernel
theorem d_P_tabOffset_0 : decode c_P_tabOffset 0 = .ok (.iload_n 0, 1) := by decide +kernel
theorem d_P_tabOffset_1 : decode c_P_tabOffset 1 = .ok (.iload_n 1, 1) := by decide +kernel
theorem d_P_tabOffset_2 : decode c_P_tabOffset 2 = .ok (.if_icmp .ne 5, 3) := by decide +kernel
theorem d_P_tabOffset_5 : decode c_P_tabOffset 5 = .ok (.lconst 0, 1) := by decide +kernel
theorem d_P_tabOffset_6 : decode c_P_tabOffset 6 = .ok (.lreturn, 1) := by decide +kernel
theorem d_P_tabOffset_7 : decode c_P_tabOffset 7 = .ok (.iload_n 0, 1) := by decide +kernel
theorem d_P_tabOffset_8 : decode c_P_tabOffset 8 = .ok (.iload_n 2, 1) := by decide +kernel
theorem d_P_tabOffset_9 : decode c_P_tabOffset 9 = .ok (.if_icmp .ne 7, 3) := by decide +kernel
theorem d_P_tabOffset_12 : decode c_P_tabOffset 12 = .ok (.lload_n 3, 1) := by decide +kernel
theorem d_P_tabOffset_13 : decode c_P_tabOffset 13 = .ok (.goto 8, 3) := by decide +kernel
theorem d_P_tabOffset_16 : decode c_P_tabOffset 16 = .ok (.lload_n 3, 1) := by decide +kernel
theorem d_P_tabOffset_17 : decode c_P_tabOffset 17 = .ok (.ldc2_w 171, 3) := by decide +kernel
theorem d_P_tabOffset_20 : decode c_P_tabOffset 20 = .ok (.ldiv, 1) := by decide +kernel
theorem d_P_tabOffset_21 : decode c_P_tabOffset 21 = .ok (.lreturn, 1) := by decide +kernel
theorem d_P_grownEnd_0 : decode c_P_grownEnd 0 = .ok (.iload 5, 2) := by decide +kernel
theorem d_P_grownEnd_2 : decode c_P_grownEnd 2 = .ok (.ifCond .eq 14, 3) := by decide +kernel
theorem d_P_grownEnd_5 : decode c_P_grownEnd 5 = .ok (.lload_n 1, 1) := by decide +kernel
theorem d_P_grownEnd_6 : decode c_P_grownEnd 6 = .ok (.lload_n 3, 1) := by decide +kernel
theorem d_P_grownEnd_7 : decode c_P_grownEnd 7 = .ok (.ladd, 1) := by decide +kernel
theorem d_P_grownEnd_8 : decode c_P_grownEnd 8 = .ok (.aload_n 0, 1) := by decide +kernel
theorem d_P_grownEnd_9 : decode c_P_grownEnd 9 = .ok (.getfield 194, 3) := by decide +kernel
theorem d_P_grownEnd_12 : decode c_P_grownEnd 12 = .ok (.ladd, 1) := by decide +kernel
theorem d_P_grownEnd_13 : decode c_P_grownEnd 13 = .ok (.goto 9, 3) := by decide +kernel
theorem d_P_grownEnd_16 : decode c_P_grownEnd 16 = .ok (.lload_n 1, 1) := by decide +kernel
theorem d_P_grownEnd_17 : decode c_P_grownEnd 17 = .ok (.aload_n 0, 1) := by decide +kernel
theorem d_P_grownEnd_18 : decode c_P_grownEnd 18 = .ok (.getfield 194, 3) := by decide +kernel
theorem d_P_grownEnd_21 : decode c_P_grownEnd 21 = .ok (.lsub, 1) := by decide +kernel
theorem d_P_grownEnd_22 : decode c_P_grownEnd 22 = .ok (.lreturn, 1) := by decide +kernel
theorem d_P_twiceAreaOfCopies_0 : decode c_P_twiceAreaOfCopies 0 = .ok (.lconst 0, 1) := by decide +kernel
theorem d_P_twiceAreaOfCopies_1 : decode c_P_twiceAreaOfCopies 1 = .ok (.lstore_n 1, 1) := by decide +kernel
theorem d_P_twiceAreaOfCopies_2 : decode c_P_twiceAreaOfCopies 2 = .ok (.iconst 0, 1) := by decide +kernel
theorem d_P_twiceAreaOfCopies_3 : decode c_P_twiceAreaOfCopies 3 = .ok (.istore_n 3, 1) := by decide +kernel
theorem d_P_twiceAreaOfCopies_4 : decode c_P_twiceAreaOfCopies 4 = .ok (.iload_n 3, 1) := by decide +kernel
theorem d_P_twiceAreaOfCopies_5 : decode c_P_twiceAreaOfCopies 5 = .ok (.aload_n 0, 1) := by decide +kernel
theorem d_P_twiceAreaOfCopies_6 : decode c_P_twiceAreaOfCopies 6 = .ok (.getfield 41, 3) := by decide +kernel
theorem d_P_twiceAreaOfCopies_9 : decode c_P_twiceAreaOfCopies 9 = .ok (.getfield 270, 3) := by decide +kernel
theorem d_P_twiceAreaOfCopies_12 : decode c_P_twiceAreaOfCopies 12 = .ok (.if_icmp .ge 40, 3) := by decide +kernel
theorem d_P_twiceAreaOfCopies_15 : decode c_P_twiceAreaOfCopies 15 = .ok (.lload_n 1, 1) := by decide +kernel
theorem d_P_twiceAreaOfCopies_16 : decode c_P_twiceAreaOfCopies 16 = .ok (.aload_n 0, 1) := by decide +kernel
theorem d_P_twiceAreaOfCopies_17 : decode c_P_twiceAreaOfCopies 17 = .ok (.getfield 41, 3) := by decide +kernel
theorem d_P_twiceAreaOfCopies_20 : decode c_P_twiceAreaOfCopies 20 = .ok (.getfield 273, 3) := by decide +kernel
theorem d_P_twiceAreaOfCopies_23 : decode c_P_twiceAreaOfCopies 23 = .ok (.iload_n 3, 1) := by decide +kernel
theorem d_P_twiceAreaOfCopies_24 : decode c_P_twiceAreaOfCopies 24 = .ok (.iaload, 1) := by decide +kernel
theorem d_P_twiceAreaOfCopies_25 : decode c_P_twiceAreaOfCopies 25 = .ok (.i2l, 1) := by decide +kernel
theorem d_P_twiceAreaOfCopies_26 : decode c_P_twiceAreaOfCopies 26 = .ok (.aload_n 0, 1) := by decide +kernel
theorem d_P_twiceAreaOfCopies_27 : decode c_P_twiceAreaOfCopies 27 = .ok (.getfield 22, 3) := by decide +kernel
theorem d_P_twiceAreaOfCopies_30 : decode c_P_twiceAreaOfCopies 30 = .ok (.aload_n 0, 1) := by decide +kernel
theorem d_P_twiceAreaOfCopies_31 : decode c_P_twiceAreaOfCopies 31 = .ok (.getfield 41, 3) := by decide +kernel
theorem d_P_twiceAreaOfCopies_34 : decode c_P_twiceAreaOfCopies 34 = .ok (.getfield 110, 3) := by decide +kernel
theorem d_P_twiceAreaOfCopies_37 : decode c_P_twiceAreaOfCopies 37 = .ok (.iload_n 3, 1) := by decide +kernel
theorem d_P_twiceAreaOfCopies_38 : decode c_P_twiceAreaOfCopies 38 = .ok (.iaload, 1) := by decide +kernel
theorem d_P_twiceAreaOfCopies_39 : decode c_P_twiceAreaOfCopies 39 = .ok (.aaload, 1) := by decide +kernel
theorem d_P_twiceAreaOfCopies_40 : decode c_P_twiceAreaOfCopies 40 = .ok (.invokevirtual 276, 3) := by decide +kernel
theorem d_P_twiceAreaOfCopies_43 : decode c_P_twiceAreaOfCopies 43 = .ok (.lmul, 1) := by decide +kernel
theorem d_P_twiceAreaOfCopies_44 : decode c_P_twiceAreaOfCopies 44 = .ok (.ladd, 1) := by decide +kernel
theorem d_P_twiceAreaOfCopies_45 : decode c_P_twiceAreaOfCopies 45 = .ok (.lstore_n 1, 1) := by decide +kernel
theorem d_P_twiceAreaOfCopies_46 : decode c_P_twiceAreaOfCopies 46 = .ok (.iinc 3 1, 3) := by decide +kernel
theorem d_P_twiceAreaOfCopies_49 : decode c_P_twiceAreaOfCopies 49 = .ok (.goto (-45), 3) := by decide +kernel
theorem d_P_twiceAreaOfCopies_52 : decode c_P_twiceAreaOfCopies 52 = .ok (.lload_n 1, 1) := by decide +kernel
theorem d_P_twiceAreaOfCopies_53 : decode c_P_twiceAreaOfCopies 53 = .ok (.lreturn, 1) := by decide +kernel
theorem d_P_commonDivisor_0 : decode c_P_commonDivisor 0 = .ok (.lload_n 0, 1) := by decide +kernel
theorem d_P_commonDivisor_1 : decode c_P_commonDivisor 1 = .ok (.lstore 4, 2) := by decide +kernel
theorem d_P_commonDivisor_3 : decode c_P_commonDivisor 3 = .ok (.lload_n 2, 1) := by decide +kernel
theorem d_P_commonDivisor_4 : decode c_P_commonDivisor 4 = .ok (.lstore 6, 2) := by decide +kernel
theorem d_P_commonDivisor_6 : decode c_P_commonDivisor 6 = .ok (.iconst 0, 1) := by decide +kernel
theorem d_P_commonDivisor_7 : decode c_P_commonDivisor 7 = .ok (.istore 8, 2) := by decide +kernel
theorem d_P_commonDivisor_9 : decode c_P_commonDivisor 9 = .ok (.iload 8, 2) := by decide +kernel
theorem d_P_commonDivisor_11 : decode c_P_commonDivisor 11 = .ok (.sipush 200, 3) := by decide +kernel
theorem d_P_commonDivisor_14 : decode c_P_commonDivisor 14 = .ok (.if_icmp .ge 31, 3) := by decide +kernel
theorem d_P_commonDivisor_17 : decode c_P_commonDivisor 17 = .ok (.lload 6, 2) := by decide +kernel
theorem d_P_commonDivisor_19 : decode c_P_commonDivisor 19 = .ok (.lconst 0, 1) := by decide +kernel
theorem d_P_commonDivisor_20 : decode c_P_commonDivisor 20 = .ok (.lcmp, 1) := by decide +kernel
theorem d_P_commonDivisor_21 : decode c_P_commonDivisor 21 = .ok (.ifCond .eq 24, 3) := by decide +kernel
theorem d_P_commonDivisor_24 : decode c_P_commonDivisor 24 = .ok (.lload 4, 2) := by decide +kernel
theorem d_P_commonDivisor_26 : decode c_P_commonDivisor 26 = .ok (.lload 6, 2) := by decide +kernel
theorem d_P_commonDivisor_28 : decode c_P_commonDivisor 28 = .ok (.lrem, 1) := by decide +kernel
theorem d_P_commonDivisor_29 : decode c_P_commonDivisor 29 = .ok (.lstore 9, 2) := by decide +kernel
theorem d_P_commonDivisor_31 : decode c_P_commonDivisor 31 = .ok (.lload 6, 2) := by decide +kernel
theorem d_P_commonDivisor_33 : decode c_P_commonDivisor 33 = .ok (.lstore 4, 2) := by decide +kernel
theorem d_P_commonDivisor_35 : decode c_P_commonDivisor 35 = .ok (.lload 9, 2) := by decide +kernel
theorem d_P_commonDivisor_37 : decode c_P_commonDivisor 37 = .ok (.lstore 6, 2) := by decide +kernel
theorem d_P_commonDivisor_39 : decode c_P_commonDivisor 39 = .ok (.iinc 8 1, 3) := by decide +kernel
theorem d_P_commonDivisor_42 : decode c_P_commonDivisor 42 = .ok (.goto (-33), 3) := by decide +kernel
theorem d_P_commonDivisor_45 : decode c_P_commonDivisor 45 = .ok (.lconst 1, 1) := by decide +kernel
theorem d_P_commonDivisor_46 : decode c_P_commonDivisor 46 = .ok (.lload 4, 2) := by decide +kernel
theorem d_P_commonDivisor_48 : decode c_P_commonDivisor 48 = .ok (.invokestatic 212, 3) := by decide +kernel
theorem d_P_commonDivisor_51 : decode c_P_commonDivisor 51 = .ok (.lreturn, 1) := by decide +kernel
