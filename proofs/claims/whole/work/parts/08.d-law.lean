theorem d_L_cell_0 : decode c_L_cell 0 = .ok (.iload_n 1, 1) := by decide +kernel
theorem d_L_cell_1 : decode c_L_cell 1 = .ok (.aload_n 0, 1) := by decide +kernel
theorem d_L_cell_2 : decode c_L_cell 2 = .ok (.arraylength, 1) := by decide +kernel
theorem d_L_cell_3 : decode c_L_cell 3 = .ok (.if_icmp .ge 9, 3) := by decide +kernel
theorem d_L_cell_6 : decode c_L_cell 6 = .ok (.aload_n 0, 1) := by decide +kernel
theorem d_L_cell_7 : decode c_L_cell 7 = .ok (.iload_n 1, 1) := by decide +kernel
theorem d_L_cell_8 : decode c_L_cell 8 = .ok (.iaload, 1) := by decide +kernel
theorem d_L_cell_9 : decode c_L_cell 9 = .ok (.goto 4, 3) := by decide +kernel
theorem d_L_cell_12 : decode c_L_cell 12 = .ok (.iconst 0, 1) := by decide +kernel
theorem d_L_cell_13 : decode c_L_cell 13 = .ok (.ireturn, 1) := by decide +kernel
theorem d_L_depth_0 : decode c_L_depth 0 = .ok (.aload_n 0, 1) := by decide +kernel
theorem d_L_depth_1 : decode c_L_depth 1 = .ok (.iload_n 1, 1) := by decide +kernel
theorem d_L_depth_2 : decode c_L_depth 2 = .ok (.iload_n 2, 1) := by decide +kernel
theorem d_L_depth_3 : decode c_L_depth 3 = .ok (.invokevirtual 7, 3) := by decide +kernel
theorem d_L_depth_6 : decode c_L_depth 6 = .ok (.goto 9, 3) := by decide +kernel
theorem d_L_depth_9 : decode c_L_depth 9 = .ok (.astore_n 3, 1) := by decide +kernel
theorem d_L_depth_10 : decode c_L_depth 10 = .ok (.iconst 1, 1) := by decide +kernel
theorem d_L_depth_11 : decode c_L_depth 11 = .ok (.ireturn, 1) := by decide +kernel
theorem d_L_depth_12 : decode c_L_depth 12 = .ok (.astore_n 3, 1) := by decide +kernel
theorem d_L_depth_13 : decode c_L_depth 13 = .ok (.iconst 2, 1) := by decide +kernel
theorem d_L_depth_14 : decode c_L_depth 14 = .ok (.ireturn, 1) := by decide +kernel
theorem d_L_depth_15 : decode c_L_depth 15 = .ok (.iconst 0, 1) := by decide +kernel
theorem d_L_depth_16 : decode c_L_depth 16 = .ok (.ireturn, 1) := by decide +kernel
theorem d_L_place_0 : decode c_L_place 0 = .ok (.aload_n 3, 1) := by decide +kernel
theorem d_L_place_1 : decode c_L_place 1 = .ok (.iconst 0, 1) := by decide +kernel
theorem d_L_place_2 : decode c_L_place 2 = .ok (.aload_n 0, 1) := by decide +kernel
theorem d_L_place_3 : decode c_L_place 3 = .ok (.iload_n 1, 1) := by decide +kernel
theorem d_L_place_4 : decode c_L_place 4 = .ok (.iload_n 2, 1) := by decide +kernel
theorem d_L_place_5 : decode c_L_place 5 = .ok (.invokevirtual 17, 3) := by decide +kernel
theorem d_L_place_8 : decode c_L_place 8 = .ok (.i2l, 1) := by decide +kernel
theorem d_L_place_9 : decode c_L_place 9 = .ok (.lastore, 1) := by decide +kernel
theorem d_L_place_10 : decode c_L_place 10 = .ok (.goto 7, 3) := by decide +kernel
theorem d_L_place_13 : decode c_L_place 13 = .ok (.astore 4, 2) := by decide +kernel
theorem d_L_place_15 : decode c_L_place 15 = .ok (.iconst 1, 1) := by decide +kernel
theorem d_L_place_16 : decode c_L_place 16 = .ok (.ireturn, 1) := by decide +kernel
theorem d_L_place_17 : decode c_L_place 17 = .ok (.iconst 0, 1) := by decide +kernel
theorem d_L_place_18 : decode c_L_place 18 = .ok (.ireturn, 1) := by decide +kernel
theorem d_L_mirror_0 : decode c_L_mirror 0 = .ok (.aload_n 2, 1) := by decide +kernel
theorem d_L_mirror_1 : decode c_L_mirror 1 = .ok (.iconst 0, 1) := by decide +kernel
theorem d_L_mirror_2 : decode c_L_mirror 2 = .ok (.aload_n 0, 1) := by decide +kernel
theorem d_L_mirror_3 : decode c_L_mirror 3 = .ok (.iload_n 1, 1) := by decide +kernel
theorem d_L_mirror_4 : decode c_L_mirror 4 = .ok (.invokevirtual 21, 3) := by decide +kernel
theorem d_L_mirror_7 : decode c_L_mirror 7 = .ok (.lastore, 1) := by decide +kernel
theorem d_L_mirror_8 : decode c_L_mirror 8 = .ok (.goto 9, 3) := by decide +kernel
theorem d_L_mirror_11 : decode c_L_mirror 11 = .ok (.astore_n 3, 1) := by decide +kernel
theorem d_L_mirror_12 : decode c_L_mirror 12 = .ok (.iconst 1, 1) := by decide +kernel
theorem d_L_mirror_13 : decode c_L_mirror 13 = .ok (.ireturn, 1) := by decide +kernel
theorem d_L_mirror_14 : decode c_L_mirror 14 = .ok (.astore_n 3, 1) := by decide +kernel
theorem d_L_mirror_15 : decode c_L_mirror 15 = .ok (.iconst 2, 1) := by decide +kernel
theorem d_L_mirror_16 : decode c_L_mirror 16 = .ok (.ireturn, 1) := by decide +kernel
theorem d_L_mirror_17 : decode c_L_mirror 17 = .ok (.iconst 0, 1) := by decide +kernel
theorem d_L_mirror_18 : decode c_L_mirror 18 = .ok (.ireturn, 1) := by decide +kernel
theorem d_L_sum_0 : decode c_L_sum 0 = .ok (.aload_n 2, 1) := by decide +kernel
theorem d_L_sum_1 : decode c_L_sum 1 = .ok (.iconst 0, 1) := by decide +kernel
theorem d_L_sum_2 : decode c_L_sum 2 = .ok (.aload_n 0, 1) := by decide +kernel
theorem d_L_sum_3 : decode c_L_sum 3 = .ok (.iload_n 1, 1) := by decide +kernel
theorem d_L_sum_4 : decode c_L_sum 4 = .ok (.invokevirtual 27, 3) := by decide +kernel
theorem d_L_sum_7 : decode c_L_sum 7 = .ok (.lastore, 1) := by decide +kernel
theorem d_L_sum_8 : decode c_L_sum 8 = .ok (.goto 6, 3) := by decide +kernel
theorem d_L_sum_11 : decode c_L_sum 11 = .ok (.astore_n 3, 1) := by decide +kernel
theorem d_L_sum_12 : decode c_L_sum 12 = .ok (.iconst 1, 1) := by decide +kernel
theorem d_L_sum_13 : decode c_L_sum 13 = .ok (.ireturn, 1) := by decide +kernel
theorem d_L_sum_14 : decode c_L_sum 14 = .ok (.iconst 0, 1) := by decide +kernel
theorem d_L_sum_15 : decode c_L_sum 15 = .ok (.ireturn, 1) := by decide +kernel
theorem d_L_repeat__0 : decode c_L_repeat_ 0 = .ok (.aload_n 3, 1) := by decide +kernel
theorem d_L_repeat__1 : decode c_L_repeat_ 1 = .ok (.iconst 0, 1) := by decide +kernel
theorem d_L_repeat__2 : decode c_L_repeat_ 2 = .ok (.aload_n 0, 1) := by decide +kernel
theorem d_L_repeat__3 : decode c_L_repeat_ 3 = .ok (.iload_n 1, 1) := by decide +kernel
theorem d_L_repeat__4 : decode c_L_repeat_ 4 = .ok (.iload_n 2, 1) := by decide +kernel
theorem d_L_repeat__5 : decode c_L_repeat_ 5 = .ok (.invokevirtual 30, 3) := by decide +kernel
theorem d_L_repeat__8 : decode c_L_repeat_ 8 = .ok (.i2l, 1) := by decide +kernel
theorem d_L_repeat__9 : decode c_L_repeat_ 9 = .ok (.lastore, 1) := by decide +kernel
theorem d_L_repeat__10 : decode c_L_repeat_ 10 = .ok (.goto 7, 3) := by decide +kernel
theorem d_L_repeat__13 : decode c_L_repeat_ 13 = .ok (.astore 4, 2) := by decide +kernel
theorem d_L_repeat__15 : decode c_L_repeat_ 15 = .ok (.iconst 1, 1) := by decide +kernel
theorem d_L_repeat__16 : decode c_L_repeat_ 16 = .ok (.ireturn, 1) := by decide +kernel
theorem d_L_repeat__17 : decode c_L_repeat_ 17 = .ok (.iconst 0, 1) := by decide +kernel
theorem d_L_repeat__18 : decode c_L_repeat_ 18 = .ok (.ireturn, 1) := by decide +kernel
theorem d_L_fill_0 : decode c_L_fill 0 = .ok (.aload_n 3, 1) := by decide +kernel
theorem d_L_fill_1 : decode c_L_fill 1 = .ok (.iconst 0, 1) := by decide +kernel
theorem d_L_fill_2 : decode c_L_fill 2 = .ok (.aload_n 0, 1) := by decide +kernel
theorem d_L_fill_3 : decode c_L_fill 3 = .ok (.iload_n 1, 1) := by decide +kernel
theorem d_L_fill_4 : decode c_L_fill 4 = .ok (.iload_n 2, 1) := by decide +kernel
theorem d_L_fill_5 : decode c_L_fill 5 = .ok (.invokevirtual 33, 3) := by decide +kernel
theorem d_L_fill_8 : decode c_L_fill 8 = .ok (.i2l, 1) := by decide +kernel
theorem d_L_fill_9 : decode c_L_fill 9 = .ok (.lastore, 1) := by decide +kernel
theorem d_L_fill_10 : decode c_L_fill 10 = .ok (.goto 7, 3) := by decide +kernel
theorem d_L_fill_13 : decode c_L_fill 13 = .ok (.astore 4, 2) := by decide +kernel
theorem d_L_fill_15 : decode c_L_fill 15 = .ok (.iconst 1, 1) := by decide +kernel
theorem d_L_fill_16 : decode c_L_fill 16 = .ok (.ireturn, 1) := by decide +kernel
theorem d_L_fill_17 : decode c_L_fill 17 = .ok (.iconst 0, 1) := by decide +kernel
theorem d_L_fill_18 : decode c_L_fill 18 = .ok (.ireturn, 1) := by decide +kernel
theorem d_L_shape_0 : decode c_L_shape 0 = .ok (.aload_n 2, 1) := by decide +kernel
theorem d_L_shape_1 : decode c_L_shape 1 = .ok (.iconst 0, 1) := by decide +kernel
theorem d_L_shape_2 : decode c_L_shape 2 = .ok (.aload_n 0, 1) := by decide +kernel
theorem d_L_shape_3 : decode c_L_shape 3 = .ok (.iload_n 1, 1) := by decide +kernel
theorem d_L_shape_4 : decode c_L_shape 4 = .ok (.invokevirtual 36, 3) := by decide +kernel
theorem d_L_shape_7 : decode c_L_shape 7 = .ok (.i2l, 1) := by decide +kernel
theorem d_L_shape_8 : decode c_L_shape 8 = .ok (.lastore, 1) := by decide +kernel
theorem d_L_shape_9 : decode c_L_shape 9 = .ok (.goto 9, 3) := by decide +kernel
theorem d_L_shape_12 : decode c_L_shape 12 = .ok (.astore_n 3, 1) := by decide +kernel
theorem d_L_shape_13 : decode c_L_shape 13 = .ok (.iconst 1, 1) := by decide +kernel
theorem d_L_shape_14 : decode c_L_shape 14 = .ok (.ireturn, 1) := by decide +kernel
theorem d_L_shape_15 : decode c_L_shape 15 = .ok (.astore_n 3, 1) := by decide +kernel
theorem d_L_shape_16 : decode c_L_shape 16 = .ok (.iconst 2, 1) := by decide +kernel
theorem d_L_shape_17 : decode c_L_shape 17 = .ok (.ireturn, 1) := by decide +kernel
theorem d_L_shape_18 : decode c_L_shape 18 = .ok (.iconst 0, 1) := by decide +kernel
theorem d_L_shape_19 : decode c_L_shape 19 = .ok (.ireturn, 1) := by decide +kernel
theorem d_L_carve_0 : decode c_L_carve 0 = .ok (.aload_n 0, 1) := by decide +kernel
theorem d_L_carve_1 : decode c_L_carve 1 = .ok (.iload_n 1, 1) := by decide +kernel
theorem d_L_carve_2 : decode c_L_carve 2 = .ok (.iload_n 2, 1) := by decide +kernel
theorem d_L_carve_3 : decode c_L_carve 3 = .ok (.iload_n 3, 1) := by decide +kernel
theorem d_L_carve_4 : decode c_L_carve 4 = .ok (.invokevirtual 40, 3) := by decide +kernel
theorem d_L_carve_7 : decode c_L_carve 7 = .ok (.goto 11, 3) := by decide +kernel
theorem d_L_carve_10 : decode c_L_carve 10 = .ok (.astore 4, 2) := by decide +kernel
theorem d_L_carve_12 : decode c_L_carve 12 = .ok (.iconst 1, 1) := by decide +kernel
theorem d_L_carve_13 : decode c_L_carve 13 = .ok (.ireturn, 1) := by decide +kernel
theorem d_L_carve_14 : decode c_L_carve 14 = .ok (.astore 4, 2) := by decide +kernel
theorem d_L_carve_16 : decode c_L_carve 16 = .ok (.iconst 2, 1) := by decide +kernel
theorem d_L_carve_17 : decode c_L_carve 17 = .ok (.ireturn, 1) := by decide +kernel
theorem d_L_carve_18 : decode c_L_carve 18 = .ok (.iconst 0, 1) := by decide +kernel
theorem d_L_carve_19 : decode c_L_carve 19 = .ok (.ireturn, 1) := by decide +kernel
theorem d_L_match__0 : decode c_L_match_ 0 = .ok (.aload_n 2, 1) := by decide +kernel
theorem d_L_match__1 : decode c_L_match_ 1 = .ok (.iconst 0, 1) := by decide +kernel
theorem d_L_match__2 : decode c_L_match_ 2 = .ok (.aload_n 0, 1) := by decide +kernel
theorem d_L_match__3 : decode c_L_match_ 3 = .ok (.iload_n 1, 1) := by decide +kernel
theorem d_L_match__4 : decode c_L_match_ 4 = .ok (.invokevirtual 44, 3) := by decide +kernel
theorem d_L_match__7 : decode c_L_match_ 7 = .ok (.i2l, 1) := by decide +kernel
theorem d_L_match__8 : decode c_L_match_ 8 = .ok (.lastore, 1) := by decide +kernel
theorem d_L_match__9 : decode c_L_match_ 9 = .ok (.goto 9, 3) := by decide +kernel
theorem d_L_match__12 : decode c_L_match_ 12 = .ok (.astore_n 3, 1) := by decide +kernel
theorem d_L_match__13 : decode c_L_match_ 13 = .ok (.iconst 1, 1) := by decide +kernel
theorem d_L_match__14 : decode c_L_match_ 14 = .ok (.ireturn, 1) := by decide +kernel
theorem d_L_match__15 : decode c_L_match_ 15 = .ok (.astore_n 3, 1) := by decide +kernel
theorem d_L_match__16 : decode c_L_match_ 16 = .ok (.iconst 2, 1) := by decide +kernel
theorem d_L_match__17 : decode c_L_match_ 17 = .ok (.ireturn, 1) := by decide +kernel
theorem d_L_match__18 : decode c_L_match_ 18 = .ok (.iconst 0, 1) := by decide +kernel
theorem d_L_match__19 : decode c_L_match_ 19 = .ok (.ireturn, 1) := by decide +kernel
theorem d_L_kind_0 : decode c_L_kind 0 = .ok (.aload_n 2, 1) := by decide +kernel
theorem d_L_kind_1 : decode c_L_kind 1 = .ok (.iconst 0, 1) := by decide +kernel
theorem d_L_kind_2 : decode c_L_kind 2 = .ok (.aload_n 0, 1) := by decide +kernel
theorem d_L_kind_3 : decode c_L_kind 3 = .ok (.iload_n 1, 1) := by decide +kernel
theorem d_L_kind_4 : decode c_L_kind 4 = .ok (.invokevirtual 47, 3) := by decide +kernel
theorem d_L_kind_7 : decode c_L_kind 7 = .ok (.i2l, 1) := by decide +kernel
theorem d_L_kind_8 : decode c_L_kind 8 = .ok (.lastore, 1) := by decide +kernel
theorem d_L_kind_9 : decode c_L_kind 9 = .ok (.goto 9, 3) := by decide +kernel
theorem d_L_kind_12 : decode c_L_kind 12 = .ok (.astore_n 3, 1) := by decide +kernel
theorem d_L_kind_13 : decode c_L_kind 13 = .ok (.iconst 1, 1) := by decide +kernel
theorem d_L_kind_14 : decode c_L_kind 14 = .ok (.ireturn, 1) := by decide +kernel
theorem d_L_kind_15 : decode c_L_kind 15 = .ok (.astore_n 3, 1) := by decide +kernel
theorem d_L_kind_16 : decode c_L_kind 16 = .ok (.iconst 2, 1) := by decide +kernel
theorem d_L_kind_17 : decode c_L_kind 17 = .ok (.ireturn, 1) := by decide +kernel
theorem d_L_kind_18 : decode c_L_kind 18 = .ok (.iconst 0, 1) := by decide +kernel
theorem d_L_kind_19 : decode c_L_kind 19 = .ok (.ireturn, 1) := by decide +kernel
theorem d_L_question_0 : decode c_L_question 0 = .ok (.aload 4, 2) := by decide +kernel
theorem d_L_question_2 : decode c_L_question 2 = .ok (.iconst 0, 1) := by decide +kernel
theorem d_L_question_3 : decode c_L_question 3 = .ok (.aload_n 0, 1) := by decide +kernel
theorem d_L_question_4 : decode c_L_question 4 = .ok (.iload_n 1, 1) := by decide +kernel
theorem d_L_question_5 : decode c_L_question 5 = .ok (.iload_n 2, 1) := by decide +kernel
theorem d_L_question_6 : decode c_L_question 6 = .ok (.iload_n 3, 1) := by decide +kernel
theorem d_L_question_7 : decode c_L_question 7 = .ok (.invokevirtual 50, 3) := by decide +kernel
theorem d_L_question_10 : decode c_L_question 10 = .ok (.i2l, 1) := by decide +kernel
theorem d_L_question_11 : decode c_L_question 11 = .ok (.lastore, 1) := by decide +kernel
theorem d_L_question_12 : decode c_L_question 12 = .ok (.goto 15, 3) := by decide +kernel
theorem d_L_question_15 : decode c_L_question 15 = .ok (.astore 5, 2) := by decide +kernel
theorem d_L_question_17 : decode c_L_question 17 = .ok (.iconst 1, 1) := by decide +kernel
theorem d_L_question_18 : decode c_L_question 18 = .ok (.ireturn, 1) := by decide +kernel
theorem d_L_question_19 : decode c_L_question 19 = .ok (.astore 5, 2) := by decide +kernel
theorem d_L_question_21 : decode c_L_question 21 = .ok (.iconst 2, 1) := by decide +kernel
theorem d_L_question_22 : decode c_L_question 22 = .ok (.ireturn, 1) := by decide +kernel
theorem d_L_question_23 : decode c_L_question 23 = .ok (.astore 5, 2) := by decide +kernel
theorem d_L_question_25 : decode c_L_question 25 = .ok (.iconst 3, 1) := by decide +kernel
theorem d_L_question_26 : decode c_L_question 26 = .ok (.ireturn, 1) := by decide +kernel
theorem d_L_question_27 : decode c_L_question 27 = .ok (.iconst 0, 1) := by decide +kernel
theorem d_L_question_28 : decode c_L_question 28 = .ok (.ireturn, 1) := by decide +kernel
theorem d_L_ask_0 : decode c_L_ask 0 = .ok (.aload_n 3, 1) := by decide +kernel
theorem d_L_ask_1 : decode c_L_ask 1 = .ok (.iconst 0, 1) := by decide +kernel
theorem d_L_ask_2 : decode c_L_ask 2 = .ok (.aload_n 0, 1) := by decide +kernel
theorem d_L_ask_3 : decode c_L_ask 3 = .ok (.iload_n 1, 1) := by decide +kernel
theorem d_L_ask_4 : decode c_L_ask 4 = .ok (.iload_n 2, 1) := by decide +kernel
theorem d_L_ask_5 : decode c_L_ask 5 = .ok (.invokevirtual 54, 3) := by decide +kernel
theorem d_L_ask_8 : decode c_L_ask 8 = .ok (.i2l, 1) := by decide +kernel
theorem d_L_ask_9 : decode c_L_ask 9 = .ok (.lastore, 1) := by decide +kernel
theorem d_L_ask_10 : decode c_L_ask 10 = .ok (.goto 11, 3) := by decide +kernel
theorem d_L_ask_13 : decode c_L_ask 13 = .ok (.astore 4, 2) := by decide +kernel
theorem d_L_ask_15 : decode c_L_ask 15 = .ok (.iconst 1, 1) := by decide +kernel
theorem d_L_ask_16 : decode c_L_ask 16 = .ok (.ireturn, 1) := by decide +kernel
theorem d_L_ask_17 : decode c_L_ask 17 = .ok (.astore 4, 2) := by decide +kernel
theorem d_L_ask_19 : decode c_L_ask 19 = .ok (.iconst 2, 1) := by decide +kernel
theorem d_L_ask_20 : decode c_L_ask 20 = .ok (.ireturn, 1) := by decide +kernel
theorem d_L_ask_21 : decode c_L_ask 21 = .ok (.iconst 0, 1) := by decide +kernel
theorem d_L_ask_22 : decode c_L_ask 22 = .ok (.ireturn, 1) := by decide +kernel
theorem d_L_rule_0 : decode c_L_rule 0 = .ok (.aload 7, 2) := by decide +kernel
theorem d_L_rule_2 : decode c_L_rule 2 = .ok (.iconst 0, 1) := by decide +kernel
theorem d_L_rule_3 : decode c_L_rule 3 = .ok (.aload_n 0, 1) := by decide +kernel
theorem d_L_rule_4 : decode c_L_rule 4 = .ok (.iload_n 1, 1) := by decide +kernel
theorem d_L_rule_5 : decode c_L_rule 5 = .ok (.iload_n 2, 1) := by decide +kernel
theorem d_L_rule_6 : decode c_L_rule 6 = .ok (.iload_n 3, 1) := by decide +kernel
theorem d_L_rule_7 : decode c_L_rule 7 = .ok (.iload 4, 2) := by decide +kernel
theorem d_L_rule_9 : decode c_L_rule 9 = .ok (.iload 5, 2) := by decide +kernel
theorem d_L_rule_11 : decode c_L_rule 11 = .ok (.iload 6, 2) := by decide +kernel
theorem d_L_rule_13 : decode c_L_rule 13 = .ok (.invokevirtual 57, 3) := by decide +kernel
theorem d_L_rule_16 : decode c_L_rule 16 = .ok (.i2l, 1) := by decide +kernel
theorem d_L_rule_17 : decode c_L_rule 17 = .ok (.lastore, 1) := by decide +kernel
theorem d_L_rule_18 : decode c_L_rule 18 = .ok (.goto 15, 3) := by decide +kernel
theorem d_L_rule_21 : decode c_L_rule 21 = .ok (.astore 8, 2) := by decide +kernel
theorem d_L_rule_23 : decode c_L_rule 23 = .ok (.iconst 1, 1) := by decide +kernel
theorem d_L_rule_24 : decode c_L_rule 24 = .ok (.ireturn, 1) := by decide +kernel
theorem d_L_rule_25 : decode c_L_rule 25 = .ok (.astore 8, 2) := by decide +kernel
theorem d_L_rule_27 : decode c_L_rule 27 = .ok (.iconst 2, 1) := by decide +kernel
theorem d_L_rule_28 : decode c_L_rule 28 = .ok (.ireturn, 1) := by decide +kernel
theorem d_L_rule_29 : decode c_L_rule 29 = .ok (.astore 8, 2) := by decide +kernel
theorem d_L_rule_31 : decode c_L_rule 31 = .ok (.iconst 3, 1) := by decide +kernel
theorem d_L_rule_32 : decode c_L_rule 32 = .ok (.ireturn, 1) := by decide +kernel
theorem d_L_rule_33 : decode c_L_rule 33 = .ok (.iconst 0, 1) := by decide +kernel
theorem d_L_rule_34 : decode c_L_rule 34 = .ok (.ireturn, 1) := by decide +kernel
theorem d_L_age_0 : decode c_L_age 0 = .ok (.aload_n 2, 1) := by decide +kernel
theorem d_L_age_1 : decode c_L_age 1 = .ok (.iconst 0, 1) := by decide +kernel
theorem d_L_age_2 : decode c_L_age 2 = .ok (.aload_n 0, 1) := by decide +kernel
theorem d_L_age_3 : decode c_L_age 3 = .ok (.iload_n 1, 1) := by decide +kernel
theorem d_L_age_4 : decode c_L_age 4 = .ok (.invokevirtual 61, 3) := by decide +kernel
theorem d_L_age_7 : decode c_L_age 7 = .ok (.i2l, 1) := by decide +kernel
theorem d_L_age_8 : decode c_L_age 8 = .ok (.lastore, 1) := by decide +kernel
theorem d_L_age_9 : decode c_L_age 9 = .ok (.goto 9, 3) := by decide +kernel
theorem d_L_age_12 : decode c_L_age 12 = .ok (.astore_n 3, 1) := by decide +kernel
theorem d_L_age_13 : decode c_L_age 13 = .ok (.iconst 1, 1) := by decide +kernel
theorem d_L_age_14 : decode c_L_age 14 = .ok (.ireturn, 1) := by decide +kernel
theorem d_L_age_15 : decode c_L_age 15 = .ok (.astore_n 3, 1) := by decide +kernel
theorem d_L_age_16 : decode c_L_age 16 = .ok (.iconst 2, 1) := by decide +kernel
theorem d_L_age_17 : decode c_L_age 17 = .ok (.ireturn, 1) := by decide +kernel
theorem d_L_age_18 : decode c_L_age 18 = .ok (.iconst 0, 1) := by decide +kernel
theorem d_L_age_19 : decode c_L_age 19 = .ok (.ireturn, 1) := by decide +kernel
