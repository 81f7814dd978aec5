theorem d_L_cell_0 : decode c_L_cell 0 = .ok (.iload_n 1, 1) := by decide +kernel
theorem d_L_cell_1 : decode c_L_cell 1 = .ok (.aload_n 0, 1) := by decide +kernel
theorem d_L_cell_2 : decode c_L_cell 2 = .ok (.arraylength, 1) := by decide +kernel
theorem d_L_cell_3 : decode c_L_cell 3 = .ok (.if_icmp .ge 9, 3) := by decide +kernel
theorem d_L_cell_6 : decode c_L_cell 6 = .ok (.aload_n 0, 1) := by decide +kernel
theorem d_L_cell_7 : decode c_L_cell 7 = .ok (.iload_n 1, 1) := by decide +kernel
theorem d_L_cell_8 : decode c_L_cell 8 = .ok (.iaload, 1) := by decide +kernel
theorem d_L_cell_9 : decode c_L_cell 9 = .ok (.goto 4, 3) := by decide +kernel
theorem d_L_cell_12 : decode c_L_cell 12 = .ok (.iconst 0, 1) := by decide +kernel
theorem d_L_cell_13 : decode c_L_cell 13 = .ok (.ireturn, 1) := by decide +kernel
theorem d_L_corner_0 : decode c_L_corner 0 = .ok (.aload 6, 2) := by decide +kernel
theorem d_L_corner_2 : decode c_L_corner 2 = .ok (.iconst 0, 1) := by decide +kernel
theorem d_L_corner_3 : decode c_L_corner 3 = .ok (.aload_n 0, 1) := by decide +kernel
theorem d_L_corner_4 : decode c_L_corner 4 = .ok (.iload_n 1, 1) := by decide +kernel
theorem d_L_corner_5 : decode c_L_corner 5 = .ok (.lload_n 2, 1) := by decide +kernel
theorem d_L_corner_6 : decode c_L_corner 6 = .ok (.lload 4, 2) := by decide +kernel
theorem d_L_corner_8 : decode c_L_corner 8 = .ok (.invokevirtual 7, 3) := by decide +kernel
theorem d_L_corner_11 : decode c_L_corner 11 = .ok (.ifCond .eq 7, 3) := by decide +kernel
theorem d_L_corner_14 : decode c_L_corner 14 = .ok (.lconst 1, 1) := by decide +kernel
theorem d_L_corner_15 : decode c_L_corner 15 = .ok (.goto 4, 3) := by decide +kernel
theorem d_L_corner_18 : decode c_L_corner 18 = .ok (.lconst 0, 1) := by decide +kernel
theorem d_L_corner_19 : decode c_L_corner 19 = .ok (.lastore, 1) := by decide +kernel
theorem d_L_corner_20 : decode c_L_corner 20 = .ok (.goto 11, 3) := by decide +kernel
theorem d_L_corner_23 : decode c_L_corner 23 = .ok (.astore 7, 2) := by decide +kernel
theorem d_L_corner_25 : decode c_L_corner 25 = .ok (.iconst 1, 1) := by decide +kernel
theorem d_L_corner_26 : decode c_L_corner 26 = .ok (.ireturn, 1) := by decide +kernel
theorem d_L_corner_27 : decode c_L_corner 27 = .ok (.astore 7, 2) := by decide +kernel
theorem d_L_corner_29 : decode c_L_corner 29 = .ok (.iconst 2, 1) := by decide +kernel
theorem d_L_corner_30 : decode c_L_corner 30 = .ok (.ireturn, 1) := by decide +kernel
theorem d_L_corner_31 : decode c_L_corner 31 = .ok (.iconst 0, 1) := by decide +kernel
theorem d_L_corner_32 : decode c_L_corner 32 = .ok (.ireturn, 1) := by decide +kernel
theorem d_L_run_0 : decode c_L_run 0 = .ok (.aload 4, 2) := by decide +kernel
theorem d_L_run_2 : decode c_L_run 2 = .ok (.iconst 0, 1) := by decide +kernel
theorem d_L_run_3 : decode c_L_run 3 = .ok (.aload_n 0, 1) := by decide +kernel
theorem d_L_run_4 : decode c_L_run 4 = .ok (.iload_n 1, 1) := by decide +kernel
theorem d_L_run_5 : decode c_L_run 5 = .ok (.lload_n 2, 1) := by decide +kernel
theorem d_L_run_6 : decode c_L_run 6 = .ok (.invokevirtual 17, 3) := by decide +kernel
theorem d_L_run_9 : decode c_L_run 9 = .ok (.i2l, 1) := by decide +kernel
theorem d_L_run_10 : decode c_L_run 10 = .ok (.lastore, 1) := by decide +kernel
theorem d_L_run_11 : decode c_L_run 11 = .ok (.goto 7, 3) := by decide +kernel
theorem d_L_run_14 : decode c_L_run 14 = .ok (.astore 5, 2) := by decide +kernel
theorem d_L_run_16 : decode c_L_run 16 = .ok (.iconst 1, 1) := by decide +kernel
theorem d_L_run_17 : decode c_L_run 17 = .ok (.ireturn, 1) := by decide +kernel
theorem d_L_run_18 : decode c_L_run 18 = .ok (.iconst 0, 1) := by decide +kernel
theorem d_L_run_19 : decode c_L_run 19 = .ok (.ireturn, 1) := by decide +kernel
theorem d_L_at_0 : decode c_L_at 0 = .ok (.aload_n 3, 1) := by decide +kernel
theorem d_L_at_1 : decode c_L_at 1 = .ok (.iconst 0, 1) := by decide +kernel
theorem d_L_at_2 : decode c_L_at 2 = .ok (.aload_n 0, 1) := by decide +kernel
theorem d_L_at_3 : decode c_L_at 3 = .ok (.iload_n 1, 1) := by decide +kernel
theorem d_L_at_4 : decode c_L_at 4 = .ok (.iload_n 2, 1) := by decide +kernel
theorem d_L_at_5 : decode c_L_at 5 = .ok (.invokevirtual 21, 3) := by decide +kernel
theorem d_L_at_8 : decode c_L_at 8 = .ok (.lastore, 1) := by decide +kernel
theorem d_L_at_9 : decode c_L_at 9 = .ok (.goto 7, 3) := by decide +kernel
theorem d_L_at_12 : decode c_L_at 12 = .ok (.astore 4, 2) := by decide +kernel
theorem d_L_at_14 : decode c_L_at 14 = .ok (.iconst 1, 1) := by decide +kernel
theorem d_L_at_15 : decode c_L_at 15 = .ok (.ireturn, 1) := by decide +kernel
theorem d_L_at_16 : decode c_L_at 16 = .ok (.iconst 0, 1) := by decide +kernel
theorem d_L_at_17 : decode c_L_at 17 = .ok (.ireturn, 1) := by decide +kernel
theorem d_L_gap_0 : decode c_L_gap 0 = .ok (.aload_n 3, 1) := by decide +kernel
theorem d_L_gap_1 : decode c_L_gap 1 = .ok (.iconst 0, 1) := by decide +kernel
theorem d_L_gap_2 : decode c_L_gap 2 = .ok (.aload_n 0, 1) := by decide +kernel
theorem d_L_gap_3 : decode c_L_gap 3 = .ok (.lload_n 1, 1) := by decide +kernel
theorem d_L_gap_4 : decode c_L_gap 4 = .ok (.invokevirtual 25, 3) := by decide +kernel
theorem d_L_gap_7 : decode c_L_gap 7 = .ok (.ifCond .eq 7, 3) := by decide +kernel
theorem d_L_gap_10 : decode c_L_gap 10 = .ok (.lconst 1, 1) := by decide +kernel
theorem d_L_gap_11 : decode c_L_gap 11 = .ok (.goto 4, 3) := by decide +kernel
theorem d_L_gap_14 : decode c_L_gap 14 = .ok (.lconst 0, 1) := by decide +kernel
theorem d_L_gap_15 : decode c_L_gap 15 = .ok (.lastore, 1) := by decide +kernel
theorem d_L_gap_16 : decode c_L_gap 16 = .ok (.goto 7, 3) := by decide +kernel
theorem d_L_gap_19 : decode c_L_gap 19 = .ok (.astore 4, 2) := by decide +kernel
theorem d_L_gap_21 : decode c_L_gap 21 = .ok (.iconst 1, 1) := by decide +kernel
theorem d_L_gap_22 : decode c_L_gap 22 = .ok (.ireturn, 1) := by decide +kernel
theorem d_L_gap_23 : decode c_L_gap 23 = .ok (.iconst 0, 1) := by decide +kernel
theorem d_L_gap_24 : decode c_L_gap 24 = .ok (.ireturn, 1) := by decide +kernel
theorem d_L_tab_0 : decode c_L_tab 0 = .ok (.aload 4, 2) := by decide +kernel
theorem d_L_tab_2 : decode c_L_tab 2 = .ok (.iconst 0, 1) := by decide +kernel
theorem d_L_tab_3 : decode c_L_tab 3 = .ok (.aload_n 0, 1) := by decide +kernel
theorem d_L_tab_4 : decode c_L_tab 4 = .ok (.iload_n 1, 1) := by decide +kernel
theorem d_L_tab_5 : decode c_L_tab 5 = .ok (.iload_n 2, 1) := by decide +kernel
theorem d_L_tab_6 : decode c_L_tab 6 = .ok (.iload_n 3, 1) := by decide +kernel
theorem d_L_tab_7 : decode c_L_tab 7 = .ok (.invokevirtual 29, 3) := by decide +kernel
theorem d_L_tab_10 : decode c_L_tab 10 = .ok (.lastore, 1) := by decide +kernel
theorem d_L_tab_11 : decode c_L_tab 11 = .ok (.goto 11, 3) := by decide +kernel
theorem d_L_tab_14 : decode c_L_tab 14 = .ok (.astore 5, 2) := by decide +kernel
theorem d_L_tab_16 : decode c_L_tab 16 = .ok (.iconst 1, 1) := by decide +kernel
theorem d_L_tab_17 : decode c_L_tab 17 = .ok (.ireturn, 1) := by decide +kernel
theorem d_L_tab_18 : decode c_L_tab 18 = .ok (.astore 5, 2) := by decide +kernel
theorem d_L_tab_20 : decode c_L_tab 20 = .ok (.iconst 2, 1) := by decide +kernel
theorem d_L_tab_21 : decode c_L_tab 21 = .ok (.ireturn, 1) := by decide +kernel
theorem d_L_tab_22 : decode c_L_tab 22 = .ok (.iconst 0, 1) := by decide +kernel
theorem d_L_tab_23 : decode c_L_tab 23 = .ok (.ireturn, 1) := by decide +kernel
theorem d_L_score_0 : decode c_L_score 0 = .ok (.aload_n 3, 1) := by decide +kernel
theorem d_L_score_1 : decode c_L_score 1 = .ok (.iconst 0, 1) := by decide +kernel
theorem d_L_score_2 : decode c_L_score 2 = .ok (.aload_n 0, 1) := by decide +kernel
theorem d_L_score_3 : decode c_L_score 3 = .ok (.iload_n 1, 1) := by decide +kernel
theorem d_L_score_4 : decode c_L_score 4 = .ok (.iload_n 2, 1) := by decide +kernel
theorem d_L_score_5 : decode c_L_score 5 = .ok (.invokevirtual 35, 3) := by decide +kernel
theorem d_L_score_8 : decode c_L_score 8 = .ok (.lastore, 1) := by decide +kernel
theorem d_L_score_9 : decode c_L_score 9 = .ok (.goto 7, 3) := by decide +kernel
theorem d_L_score_12 : decode c_L_score 12 = .ok (.astore 4, 2) := by decide +kernel
theorem d_L_score_14 : decode c_L_score 14 = .ok (.iconst 1, 1) := by decide +kernel
theorem d_L_score_15 : decode c_L_score 15 = .ok (.ireturn, 1) := by decide +kernel
theorem d_L_score_16 : decode c_L_score 16 = .ok (.iconst 0, 1) := by decide +kernel
theorem d_L_score_17 : decode c_L_score 17 = .ok (.ireturn, 1) := by decide +kernel
theorem d_L_part_0 : decode c_L_part 0 = .ok (.aload 8, 2) := by decide +kernel
theorem d_L_part_2 : decode c_L_part 2 = .ok (.iconst 0, 1) := by decide +kernel
theorem d_L_part_3 : decode c_L_part 3 = .ok (.aload_n 0, 1) := by decide +kernel
theorem d_L_part_4 : decode c_L_part 4 = .ok (.iload_n 1, 1) := by decide +kernel
theorem d_L_part_5 : decode c_L_part 5 = .ok (.lload_n 2, 1) := by decide +kernel
theorem d_L_part_6 : decode c_L_part 6 = .ok (.lload 4, 2) := by decide +kernel
theorem d_L_part_8 : decode c_L_part 8 = .ok (.lload 6, 2) := by decide +kernel
theorem d_L_part_10 : decode c_L_part 10 = .ok (.invokevirtual 38, 3) := by decide +kernel
theorem d_L_part_13 : decode c_L_part 13 = .ok (.ifCond .eq 7, 3) := by decide +kernel
theorem d_L_part_16 : decode c_L_part 16 = .ok (.lconst 1, 1) := by decide +kernel
theorem d_L_part_17 : decode c_L_part 17 = .ok (.goto 4, 3) := by decide +kernel
theorem d_L_part_20 : decode c_L_part 20 = .ok (.lconst 0, 1) := by decide +kernel
theorem d_L_part_21 : decode c_L_part 21 = .ok (.lastore, 1) := by decide +kernel
theorem d_L_part_22 : decode c_L_part 22 = .ok (.goto 11, 3) := by decide +kernel
theorem d_L_part_25 : decode c_L_part 25 = .ok (.astore 9, 2) := by decide +kernel
theorem d_L_part_27 : decode c_L_part 27 = .ok (.iconst 1, 1) := by decide +kernel
theorem d_L_part_28 : decode c_L_part 28 = .ok (.ireturn, 1) := by decide +kernel
theorem d_L_part_29 : decode c_L_part 29 = .ok (.astore 9, 2) := by decide +kernel
theorem d_L_part_31 : decode c_L_part 31 = .ok (.iconst 2, 1) := by decide +kernel
theorem d_L_part_32 : decode c_L_part 32 = .ok (.ireturn, 1) := by decide +kernel
theorem d_L_part_33 : decode c_L_part 33 = .ok (.iconst 0, 1) := by decide +kernel
theorem d_L_part_34 : decode c_L_part 34 = .ok (.ireturn, 1) := by decide +kernel
theorem d_L_waste_0 : decode c_L_waste 0 = .ok (.aload_n 2, 1) := by decide +kernel
theorem d_L_waste_1 : decode c_L_waste 1 = .ok (.iconst 0, 1) := by decide +kernel
theorem d_L_waste_2 : decode c_L_waste 2 = .ok (.aload_n 0, 1) := by decide +kernel
theorem d_L_waste_3 : decode c_L_waste 3 = .ok (.iload_n 1, 1) := by decide +kernel
theorem d_L_waste_4 : decode c_L_waste 4 = .ok (.invokevirtual 42, 3) := by decide +kernel
theorem d_L_waste_7 : decode c_L_waste 7 = .ok (.lastore, 1) := by decide +kernel
theorem d_L_waste_8 : decode c_L_waste 8 = .ok (.goto 6, 3) := by decide +kernel
theorem d_L_waste_11 : decode c_L_waste 11 = .ok (.astore_n 3, 1) := by decide +kernel
theorem d_L_waste_12 : decode c_L_waste 12 = .ok (.iconst 1, 1) := by decide +kernel
theorem d_L_waste_13 : decode c_L_waste 13 = .ok (.ireturn, 1) := by decide +kernel
theorem d_L_waste_14 : decode c_L_waste 14 = .ok (.iconst 0, 1) := by decide +kernel
theorem d_L_waste_15 : decode c_L_waste 15 = .ok (.ireturn, 1) := by decide +kernel
theorem d_L_mill_0 : decode c_L_mill 0 = .ok (.aload_n 3, 1) := by decide +kernel
theorem d_L_mill_1 : decode c_L_mill 1 = .ok (.iconst 0, 1) := by decide +kernel
theorem d_L_mill_2 : decode c_L_mill 2 = .ok (.aload_n 0, 1) := by decide +kernel
theorem d_L_mill_3 : decode c_L_mill 3 = .ok (.iload_n 1, 1) := by decide +kernel
theorem d_L_mill_4 : decode c_L_mill 4 = .ok (.iload_n 2, 1) := by decide +kernel
theorem d_L_mill_5 : decode c_L_mill 5 = .ok (.invokevirtual 46, 3) := by decide +kernel
theorem d_L_mill_8 : decode c_L_mill 8 = .ok (.lastore, 1) := by decide +kernel
theorem d_L_mill_9 : decode c_L_mill 9 = .ok (.goto 7, 3) := by decide +kernel
theorem d_L_mill_12 : decode c_L_mill 12 = .ok (.astore 4, 2) := by decide +kernel
theorem d_L_mill_14 : decode c_L_mill 14 = .ok (.iconst 1, 1) := by decide +kernel
theorem d_L_mill_15 : decode c_L_mill 15 = .ok (.ireturn, 1) := by decide +kernel
theorem d_L_mill_16 : decode c_L_mill 16 = .ok (.iconst 0, 1) := by decide +kernel
theorem d_L_mill_17 : decode c_L_mill 17 = .ok (.ireturn, 1) := by decide +kernel
theorem d_L_radius_0 : decode c_L_radius 0 = .ok (.aload_n 3, 1) := by decide +kernel
theorem d_L_radius_1 : decode c_L_radius 1 = .ok (.iconst 0, 1) := by decide +kernel
theorem d_L_radius_2 : decode c_L_radius 2 = .ok (.aload_n 0, 1) := by decide +kernel
theorem d_L_radius_3 : decode c_L_radius 3 = .ok (.lload_n 1, 1) := by decide +kernel
theorem d_L_radius_4 : decode c_L_radius 4 = .ok (.invokevirtual 49, 3) := by decide +kernel
theorem d_L_radius_7 : decode c_L_radius 7 = .ok (.ifCond .eq 7, 3) := by decide +kernel
theorem d_L_radius_10 : decode c_L_radius 10 = .ok (.lconst 1, 1) := by decide +kernel
theorem d_L_radius_11 : decode c_L_radius 11 = .ok (.goto 4, 3) := by decide +kernel
theorem d_L_radius_14 : decode c_L_radius 14 = .ok (.lconst 0, 1) := by decide +kernel
theorem d_L_radius_15 : decode c_L_radius 15 = .ok (.lastore, 1) := by decide +kernel
theorem d_L_radius_16 : decode c_L_radius 16 = .ok (.goto 7, 3) := by decide +kernel
theorem d_L_radius_19 : decode c_L_radius 19 = .ok (.astore 4, 2) := by decide +kernel
theorem d_L_radius_21 : decode c_L_radius 21 = .ok (.iconst 1, 1) := by decide +kernel
theorem d_L_radius_22 : decode c_L_radius 22 = .ok (.ireturn, 1) := by decide +kernel
theorem d_L_radius_23 : decode c_L_radius 23 = .ok (.iconst 0, 1) := by decide +kernel
theorem d_L_radius_24 : decode c_L_radius 24 = .ok (.ireturn, 1) := by decide +kernel
theorem d_L_bad_0 : decode c_L_bad 0 = .ok (.aload_n 3, 1) := by decide +kernel
theorem d_L_bad_1 : decode c_L_bad 1 = .ok (.iconst 0, 1) := by decide +kernel
theorem d_L_bad_2 : decode c_L_bad 2 = .ok (.aload_n 0, 1) := by decide +kernel
theorem d_L_bad_3 : decode c_L_bad 3 = .ok (.iload_n 1, 1) := by decide +kernel
theorem d_L_bad_4 : decode c_L_bad 4 = .ok (.iload_n 2, 1) := by decide +kernel
theorem d_L_bad_5 : decode c_L_bad 5 = .ok (.invokevirtual 52, 3) := by decide +kernel
theorem d_L_bad_8 : decode c_L_bad 8 = .ok (.ifCond .eq 7, 3) := by decide +kernel
theorem d_L_bad_11 : decode c_L_bad 11 = .ok (.lconst 1, 1) := by decide +kernel
theorem d_L_bad_12 : decode c_L_bad 12 = .ok (.goto 4, 3) := by decide +kernel
theorem d_L_bad_15 : decode c_L_bad 15 = .ok (.lconst 0, 1) := by decide +kernel
theorem d_L_bad_16 : decode c_L_bad 16 = .ok (.lastore, 1) := by decide +kernel
theorem d_L_bad_17 : decode c_L_bad 17 = .ok (.goto 7, 3) := by decide +kernel
theorem d_L_bad_20 : decode c_L_bad 20 = .ok (.astore 4, 2) := by decide +kernel
theorem d_L_bad_22 : decode c_L_bad 22 = .ok (.iconst 1, 1) := by decide +kernel
theorem d_L_bad_23 : decode c_L_bad 23 = .ok (.ireturn, 1) := by decide +kernel
theorem d_L_bad_24 : decode c_L_bad 24 = .ok (.iconst 0, 1) := by decide +kernel
theorem d_L_bad_25 : decode c_L_bad 25 = .ok (.ireturn, 1) := by decide +kernel
theorem d_L_rail_0 : decode c_L_rail 0 = .ok (.aload 4, 2) := by decide +kernel
theorem d_L_rail_2 : decode c_L_rail 2 = .ok (.iconst 0, 1) := by decide +kernel
theorem d_L_rail_3 : decode c_L_rail 3 = .ok (.aload_n 0, 1) := by decide +kernel
theorem d_L_rail_4 : decode c_L_rail 4 = .ok (.iload_n 1, 1) := by decide +kernel
theorem d_L_rail_5 : decode c_L_rail 5 = .ok (.lload_n 2, 1) := by decide +kernel
theorem d_L_rail_6 : decode c_L_rail 6 = .ok (.invokevirtual 56, 3) := by decide +kernel
theorem d_L_rail_9 : decode c_L_rail 9 = .ok (.ifCond .eq 7, 3) := by decide +kernel
theorem d_L_rail_12 : decode c_L_rail 12 = .ok (.lconst 1, 1) := by decide +kernel
theorem d_L_rail_13 : decode c_L_rail 13 = .ok (.goto 4, 3) := by decide +kernel
theorem d_L_rail_16 : decode c_L_rail 16 = .ok (.lconst 0, 1) := by decide +kernel
theorem d_L_rail_17 : decode c_L_rail 17 = .ok (.lastore, 1) := by decide +kernel
theorem d_L_rail_18 : decode c_L_rail 18 = .ok (.goto 11, 3) := by decide +kernel
theorem d_L_rail_21 : decode c_L_rail 21 = .ok (.astore 5, 2) := by decide +kernel
theorem d_L_rail_23 : decode c_L_rail 23 = .ok (.iconst 1, 1) := by decide +kernel
theorem d_L_rail_24 : decode c_L_rail 24 = .ok (.ireturn, 1) := by decide +kernel
theorem d_L_rail_25 : decode c_L_rail 25 = .ok (.astore 5, 2) := by decide +kernel
theorem d_L_rail_27 : decode c_L_rail 27 = .ok (.iconst 2, 1) := by decide +kernel
theorem d_L_rail_28 : decode c_L_rail 28 = .ok (.ireturn, 1) := by decide +kernel
theorem d_L_rail_29 : decode c_L_rail 29 = .ok (.iconst 0, 1) := by decide +kernel
theorem d_L_rail_30 : decode c_L_rail 30 = .ok (.ireturn, 1) := by decide +kernel
theorem d_L_wants_0 : decode c_L_wants 0 = .ok (.aload_n 3, 1) := by decide +kernel
theorem d_L_wants_1 : decode c_L_wants 1 = .ok (.iconst 0, 1) := by decide +kernel
theorem d_L_wants_2 : decode c_L_wants 2 = .ok (.aload_n 0, 1) := by decide +kernel
theorem d_L_wants_3 : decode c_L_wants 3 = .ok (.iload_n 1, 1) := by decide +kernel
theorem d_L_wants_4 : decode c_L_wants 4 = .ok (.iload_n 2, 1) := by decide +kernel
theorem d_L_wants_5 : decode c_L_wants 5 = .ok (.invokevirtual 60, 3) := by decide +kernel
theorem d_L_wants_8 : decode c_L_wants 8 = .ok (.ifCond .eq 7, 3) := by decide +kernel
theorem d_L_wants_11 : decode c_L_wants 11 = .ok (.lconst 1, 1) := by decide +kernel
theorem d_L_wants_12 : decode c_L_wants 12 = .ok (.goto 4, 3) := by decide +kernel
theorem d_L_wants_15 : decode c_L_wants 15 = .ok (.lconst 0, 1) := by decide +kernel
theorem d_L_wants_16 : decode c_L_wants 16 = .ok (.lastore, 1) := by decide +kernel
theorem d_L_wants_17 : decode c_L_wants 17 = .ok (.goto 11, 3) := by decide +kernel
theorem d_L_wants_20 : decode c_L_wants 20 = .ok (.astore 4, 2) := by decide +kernel
theorem d_L_wants_22 : decode c_L_wants 22 = .ok (.iconst 1, 1) := by decide +kernel
theorem d_L_wants_23 : decode c_L_wants 23 = .ok (.ireturn, 1) := by decide +kernel
theorem d_L_wants_24 : decode c_L_wants 24 = .ok (.astore 4, 2) := by decide +kernel
theorem d_L_wants_26 : decode c_L_wants 26 = .ok (.iconst 2, 1) := by decide +kernel
theorem d_L_wants_27 : decode c_L_wants 27 = .ok (.ireturn, 1) := by decide +kernel
theorem d_L_wants_28 : decode c_L_wants 28 = .ok (.iconst 0, 1) := by decide +kernel
theorem d_L_wants_29 : decode c_L_wants 29 = .ok (.ireturn, 1) := by decide +kernel
