theorem d_B_init_0 : decode c_B_init 0 = .ok (.aload_n 0, 1) := by decide +kernel
theorem d_B_init_1 : decode c_B_init 1 = .ok (.invokespecial 1, 3) := by decide +kernel
theorem d_B_init_4 : decode c_B_init 4 = .ok (.return_, 1) := by decide +kernel
theorem d_R_init_0 : decode c_R_init 0 = .ok (.aload_n 0, 1) := by decide +kernel
theorem d_R_init_1 : decode c_R_init 1 = .ok (.invokespecial 3, 3) := by decide +kernel
theorem d_R_init_4 : decode c_R_init 4 = .ok (.aload_n 0, 1) := by decide +kernel
theorem d_R_init_5 : decode c_R_init 5 = .ok (.iload_n 1, 1) := by decide +kernel
theorem d_R_init_6 : decode c_R_init 6 = .ok (.newarray .int, 2) := by decide +kernel
theorem d_R_init_8 : decode c_R_init 8 = .ok (.putfield 9, 3) := by decide +kernel
theorem d_R_init_11 : decode c_R_init 11 = .ok (.aload_n 0, 1) := by decide +kernel
theorem d_R_init_12 : decode c_R_init 12 = .ok (.iload_n 1, 1) := by decide +kernel
theorem d_R_init_13 : decode c_R_init 13 = .ok (.newarray .boolean, 2) := by decide +kernel
theorem d_R_init_15 : decode c_R_init 15 = .ok (.putfield 15, 3) := by decide +kernel
theorem d_R_init_18 : decode c_R_init 18 = .ok (.aload_n 0, 1) := by decide +kernel
theorem d_R_init_19 : decode c_R_init 19 = .ok (.getfield 9, 3) := by decide +kernel
theorem d_R_init_22 : decode c_R_init 22 = .ok (.iconst (-1), 1) := by decide +kernel
theorem d_R_init_23 : decode c_R_init 23 = .ok (.invokestatic 19, 3) := by decide +kernel
theorem d_R_init_26 : decode c_R_init 26 = .ok (.return_, 1) := by decide +kernel
theorem d_R_loseGuesses_0 : decode c_R_loseGuesses 0 = .ok (.iconst 0, 1) := by decide +kernel
theorem d_R_loseGuesses_1 : decode c_R_loseGuesses 1 = .ok (.istore_n 1, 1) := by decide +kernel
theorem d_R_loseGuesses_2 : decode c_R_loseGuesses 2 = .ok (.iconst 0, 1) := by decide +kernel
theorem d_R_loseGuesses_3 : decode c_R_loseGuesses 3 = .ok (.istore_n 2, 1) := by decide +kernel
theorem d_R_loseGuesses_4 : decode c_R_loseGuesses 4 = .ok (.iload_n 2, 1) := by decide +kernel
theorem d_R_loseGuesses_5 : decode c_R_loseGuesses 5 = .ok (.aload_n 0, 1) := by decide +kernel
theorem d_R_loseGuesses_6 : decode c_R_loseGuesses 6 = .ok (.getfield 9, 3) := by decide +kernel
theorem d_R_loseGuesses_9 : decode c_R_loseGuesses 9 = .ok (.arraylength, 1) := by decide +kernel
theorem d_R_loseGuesses_10 : decode c_R_loseGuesses 10 = .ok (.if_icmp .ge 35, 3) := by decide +kernel
theorem d_R_loseGuesses_13 : decode c_R_loseGuesses 13 = .ok (.aload_n 0, 1) := by decide +kernel
theorem d_R_loseGuesses_14 : decode c_R_loseGuesses 14 = .ok (.getfield 15, 3) := by decide +kernel
theorem d_R_loseGuesses_17 : decode c_R_loseGuesses 17 = .ok (.iload_n 2, 1) := by decide +kernel
theorem d_R_loseGuesses_18 : decode c_R_loseGuesses 18 = .ok (.baload, 1) := by decide +kernel
theorem d_R_loseGuesses_19 : decode c_R_loseGuesses 19 = .ok (.ifCond .eq 20, 3) := by decide +kernel
theorem d_R_loseGuesses_22 : decode c_R_loseGuesses 22 = .ok (.aload_n 0, 1) := by decide +kernel
theorem d_R_loseGuesses_23 : decode c_R_loseGuesses 23 = .ok (.getfield 9, 3) := by decide +kernel
theorem d_R_loseGuesses_26 : decode c_R_loseGuesses 26 = .ok (.iload_n 2, 1) := by decide +kernel
theorem d_R_loseGuesses_27 : decode c_R_loseGuesses 27 = .ok (.iconst (-1), 1) := by decide +kernel
theorem d_R_loseGuesses_28 : decode c_R_loseGuesses 28 = .ok (.iastore, 1) := by decide +kernel
theorem d_R_loseGuesses_29 : decode c_R_loseGuesses 29 = .ok (.aload_n 0, 1) := by decide +kernel
theorem d_R_loseGuesses_30 : decode c_R_loseGuesses 30 = .ok (.getfield 15, 3) := by decide +kernel
theorem d_R_loseGuesses_33 : decode c_R_loseGuesses 33 = .ok (.iload_n 2, 1) := by decide +kernel
theorem d_R_loseGuesses_34 : decode c_R_loseGuesses 34 = .ok (.iconst 0, 1) := by decide +kernel
theorem d_R_loseGuesses_35 : decode c_R_loseGuesses 35 = .ok (.bastore, 1) := by decide +kernel
theorem d_R_loseGuesses_36 : decode c_R_loseGuesses 36 = .ok (.iinc 1 1, 3) := by decide +kernel
theorem d_R_loseGuesses_39 : decode c_R_loseGuesses 39 = .ok (.iinc 2 1, 3) := by decide +kernel
theorem d_R_loseGuesses_42 : decode c_R_loseGuesses 42 = .ok (.goto (-38), 3) := by decide +kernel
theorem d_R_loseGuesses_45 : decode c_R_loseGuesses 45 = .ok (.iload_n 1, 1) := by decide +kernel
theorem d_R_loseGuesses_46 : decode c_R_loseGuesses 46 = .ok (.ireturn, 1) := by decide +kernel
theorem d_R_has_0 : decode c_R_has 0 = .ok (.iload_n 1, 1) := by decide +kernel
theorem d_R_has_1 : decode c_R_has 1 = .ok (.ifCond .lt 16, 3) := by decide +kernel
theorem d_R_has_4 : decode c_R_has 4 = .ok (.iload_n 1, 1) := by decide +kernel
theorem d_R_has_5 : decode c_R_has 5 = .ok (.aload_n 0, 1) := by decide +kernel
theorem d_R_has_6 : decode c_R_has 6 = .ok (.getfield 9, 3) := by decide +kernel
theorem d_R_has_9 : decode c_R_has 9 = .ok (.arraylength, 1) := by decide +kernel
theorem d_R_has_10 : decode c_R_has 10 = .ok (.if_icmp .ge 7, 3) := by decide +kernel
theorem d_R_has_13 : decode c_R_has 13 = .ok (.iconst 1, 1) := by decide +kernel
theorem d_R_has_14 : decode c_R_has 14 = .ok (.goto 4, 3) := by decide +kernel
theorem d_R_has_17 : decode c_R_has 17 = .ok (.iconst 0, 1) := by decide +kernel
theorem d_R_has_18 : decode c_R_has 18 = .ok (.ireturn, 1) := by decide +kernel
theorem d_R_put_0 : decode c_R_put 0 = .ok (.aload_n 0, 1) := by decide +kernel
theorem d_R_put_1 : decode c_R_put 1 = .ok (.iload_n 1, 1) := by decide +kernel
theorem d_R_put_2 : decode c_R_put 2 = .ok (.invokevirtual 25, 3) := by decide +kernel
theorem d_R_put_5 : decode c_R_put 5 = .ok (.ifCond .eq 17, 3) := by decide +kernel
theorem d_R_put_8 : decode c_R_put 8 = .ok (.aload_n 0, 1) := by decide +kernel
theorem d_R_put_9 : decode c_R_put 9 = .ok (.getfield 9, 3) := by decide +kernel
theorem d_R_put_12 : decode c_R_put 12 = .ok (.iload_n 1, 1) := by decide +kernel
theorem d_R_put_13 : decode c_R_put 13 = .ok (.iload_n 2, 1) := by decide +kernel
theorem d_R_put_14 : decode c_R_put 14 = .ok (.iastore, 1) := by decide +kernel
theorem d_R_put_15 : decode c_R_put 15 = .ok (.aload_n 0, 1) := by decide +kernel
theorem d_R_put_16 : decode c_R_put 16 = .ok (.getfield 15, 3) := by decide +kernel
theorem d_R_put_19 : decode c_R_put 19 = .ok (.iload_n 1, 1) := by decide +kernel
theorem d_R_put_20 : decode c_R_put 20 = .ok (.iconst 0, 1) := by decide +kernel
theorem d_R_put_21 : decode c_R_put 21 = .ok (.bastore, 1) := by decide +kernel
theorem d_R_put_22 : decode c_R_put 22 = .ok (.return_, 1) := by decide +kernel
theorem d_R_depthAt_0 : decode c_R_depthAt 0 = .ok (.aload_n 0, 1) := by decide +kernel
theorem d_R_depthAt_1 : decode c_R_depthAt 1 = .ok (.iload_n 1, 1) := by decide +kernel
theorem d_R_depthAt_2 : decode c_R_depthAt 2 = .ok (.invokevirtual 25, 3) := by decide +kernel
theorem d_R_depthAt_5 : decode c_R_depthAt 5 = .ok (.ifCond .eq 12, 3) := by decide +kernel
theorem d_R_depthAt_8 : decode c_R_depthAt 8 = .ok (.aload_n 0, 1) := by decide +kernel
theorem d_R_depthAt_9 : decode c_R_depthAt 9 = .ok (.getfield 9, 3) := by decide +kernel
theorem d_R_depthAt_12 : decode c_R_depthAt 12 = .ok (.iload_n 1, 1) := by decide +kernel
theorem d_R_depthAt_13 : decode c_R_depthAt 13 = .ok (.iaload, 1) := by decide +kernel
theorem d_R_depthAt_14 : decode c_R_depthAt 14 = .ok (.goto 4, 3) := by decide +kernel
theorem d_R_depthAt_17 : decode c_R_depthAt 17 = .ok (.iconst (-1), 1) := by decide +kernel
theorem d_R_depthAt_18 : decode c_R_depthAt 18 = .ok (.ireturn, 1) := by decide +kernel
theorem d_R_isGuess_0 : decode c_R_isGuess 0 = .ok (.aload_n 0, 1) := by decide +kernel
theorem d_R_isGuess_1 : decode c_R_isGuess 1 = .ok (.iload_n 1, 1) := by decide +kernel
theorem d_R_isGuess_2 : decode c_R_isGuess 2 = .ok (.invokevirtual 25, 3) := by decide +kernel
theorem d_R_isGuess_5 : decode c_R_isGuess 5 = .ok (.ifCond .eq 16, 3) := by decide +kernel
theorem d_R_isGuess_8 : decode c_R_isGuess 8 = .ok (.aload_n 0, 1) := by decide +kernel
theorem d_R_isGuess_9 : decode c_R_isGuess 9 = .ok (.getfield 15, 3) := by decide +kernel
theorem d_R_isGuess_12 : decode c_R_isGuess 12 = .ok (.iload_n 1, 1) := by decide +kernel
theorem d_R_isGuess_13 : decode c_R_isGuess 13 = .ok (.baload, 1) := by decide +kernel
theorem d_R_isGuess_14 : decode c_R_isGuess 14 = .ok (.ifCond .eq 7, 3) := by decide +kernel
theorem d_R_isGuess_17 : decode c_R_isGuess 17 = .ok (.iconst 1, 1) := by decide +kernel
theorem d_R_isGuess_18 : decode c_R_isGuess 18 = .ok (.goto 4, 3) := by decide +kernel
theorem d_R_isGuess_21 : decode c_R_isGuess 21 = .ok (.iconst 0, 1) := by decide +kernel
theorem d_R_isGuess_22 : decode c_R_isGuess 22 = .ok (.ireturn, 1) := by decide +kernel
theorem d_R_size_0 : decode c_R_size 0 = .ok (.aload_n 0, 1) := by decide +kernel
theorem d_R_size_1 : decode c_R_size 1 = .ok (.getfield 9, 3) := by decide +kernel
theorem d_R_size_4 : decode c_R_size 4 = .ok (.arraylength, 1) := by decide +kernel
theorem d_R_size_5 : decode c_R_size 5 = .ok (.ireturn, 1) := by decide +kernel
theorem d_B_clear_0 : decode c_B_clear 0 = .ok (.aload_n 0, 1) := by decide +kernel
theorem d_B_clear_1 : decode c_B_clear 1 = .ok (.iconst 0, 1) := by decide +kernel
theorem d_B_clear_2 : decode c_B_clear 2 = .ok (.putfield 7, 3) := by decide +kernel
theorem d_B_clear_5 : decode c_B_clear 5 = .ok (.return_, 1) := by decide +kernel
theorem d_R_lastMirror_0 : decode c_R_lastMirror 0 = .ok (.iconst 2, 1) := by decide +kernel
theorem d_R_lastMirror_1 : decode c_R_lastMirror 1 = .ok (.aload_n 0, 1) := by decide +kernel
theorem d_R_lastMirror_2 : decode c_R_lastMirror 2 = .ok (.getfield 9, 3) := by decide +kernel
theorem d_R_lastMirror_5 : decode c_R_lastMirror 5 = .ok (.arraylength, 1) := by decide +kernel
theorem d_R_lastMirror_6 : decode c_R_lastMirror 6 = .ok (.imul, 1) := by decide +kernel
theorem d_R_lastMirror_7 : decode c_R_lastMirror 7 = .ok (.iconst 2, 1) := by decide +kernel
theorem d_R_lastMirror_8 : decode c_R_lastMirror 8 = .ok (.isub, 1) := by decide +kernel
theorem d_R_lastMirror_9 : decode c_R_lastMirror 9 = .ok (.ireturn, 1) := by decide +kernel
theorem d_R_mirrorPairs_0 : decode c_R_mirrorPairs 0 = .ok (.iconst 0, 1) := by decide +kernel
theorem d_R_mirrorPairs_1 : decode c_R_mirrorPairs 1 = .ok (.istore_n 2, 1) := by decide +kernel
theorem d_R_mirrorPairs_2 : decode c_R_mirrorPairs 2 = .ok (.iconst 0, 1) := by decide +kernel
theorem d_R_mirrorPairs_3 : decode c_R_mirrorPairs 3 = .ok (.istore_n 3, 1) := by decide +kernel
theorem d_R_mirrorPairs_4 : decode c_R_mirrorPairs 4 = .ok (.iload_n 3, 1) := by decide +kernel
theorem d_R_mirrorPairs_5 : decode c_R_mirrorPairs 5 = .ok (.iload_n 1, 1) := by decide +kernel
theorem d_R_mirrorPairs_6 : decode c_R_mirrorPairs 6 = .ok (.iload_n 3, 1) := by decide +kernel
theorem d_R_mirrorPairs_7 : decode c_R_mirrorPairs 7 = .ok (.isub, 1) := by decide +kernel
theorem d_R_mirrorPairs_8 : decode c_R_mirrorPairs 8 = .ok (.if_icmp .ge 30, 3) := by decide +kernel
theorem d_R_mirrorPairs_11 : decode c_R_mirrorPairs 11 = .ok (.aload_n 0, 1) := by decide +kernel
theorem d_R_mirrorPairs_12 : decode c_R_mirrorPairs 12 = .ok (.iload_n 3, 1) := by decide +kernel
theorem d_R_mirrorPairs_13 : decode c_R_mirrorPairs 13 = .ok (.invokevirtual 29, 3) := by decide +kernel
theorem d_R_mirrorPairs_16 : decode c_R_mirrorPairs 16 = .ok (.ifCond .eq 16, 3) := by decide +kernel
theorem d_R_mirrorPairs_19 : decode c_R_mirrorPairs 19 = .ok (.aload_n 0, 1) := by decide +kernel
theorem d_R_mirrorPairs_20 : decode c_R_mirrorPairs 20 = .ok (.iload_n 1, 1) := by decide +kernel
theorem d_R_mirrorPairs_21 : decode c_R_mirrorPairs 21 = .ok (.iload_n 3, 1) := by decide +kernel
theorem d_R_mirrorPairs_22 : decode c_R_mirrorPairs 22 = .ok (.isub, 1) := by decide +kernel
theorem d_R_mirrorPairs_23 : decode c_R_mirrorPairs 23 = .ok (.invokevirtual 29, 3) := by decide +kernel
theorem d_R_mirrorPairs_26 : decode c_R_mirrorPairs 26 = .ok (.ifCond .eq 6, 3) := by decide +kernel
theorem d_R_mirrorPairs_29 : decode c_R_mirrorPairs 29 = .ok (.iinc 2 1, 3) := by decide +kernel
theorem d_R_mirrorPairs_32 : decode c_R_mirrorPairs 32 = .ok (.iinc 3 1, 3) := by decide +kernel
theorem d_R_mirrorPairs_35 : decode c_R_mirrorPairs 35 = .ok (.goto (-31), 3) := by decide +kernel
theorem d_R_mirrorPairs_38 : decode c_R_mirrorPairs 38 = .ok (.iload_n 2, 1) := by decide +kernel
theorem d_R_mirrorPairs_39 : decode c_R_mirrorPairs 39 = .ok (.ireturn, 1) := by decide +kernel
theorem d_R_isKnown_0 : decode c_R_isKnown 0 = .ok (.aload_n 0, 1) := by decide +kernel
theorem d_R_isKnown_1 : decode c_R_isKnown 1 = .ok (.iload_n 1, 1) := by decide +kernel
theorem d_R_isKnown_2 : decode c_R_isKnown 2 = .ok (.invokevirtual 25, 3) := by decide +kernel
theorem d_R_isKnown_5 : decode c_R_isKnown 5 = .ok (.ifCond .eq 26, 3) := by decide +kernel
theorem d_R_isKnown_8 : decode c_R_isKnown 8 = .ok (.aload_n 0, 1) := by decide +kernel
theorem d_R_isKnown_9 : decode c_R_isKnown 9 = .ok (.getfield 9, 3) := by decide +kernel
theorem d_R_isKnown_12 : decode c_R_isKnown 12 = .ok (.iload_n 1, 1) := by decide +kernel
theorem d_R_isKnown_13 : decode c_R_isKnown 13 = .ok (.iaload, 1) := by decide +kernel
theorem d_R_isKnown_14 : decode c_R_isKnown 14 = .ok (.iconst (-1), 1) := by decide +kernel
theorem d_R_isKnown_15 : decode c_R_isKnown 15 = .ok (.if_icmp .eq 16, 3) := by decide +kernel
theorem d_R_isKnown_18 : decode c_R_isKnown 18 = .ok (.aload_n 0, 1) := by decide +kernel
theorem d_R_isKnown_19 : decode c_R_isKnown 19 = .ok (.getfield 15, 3) := by decide +kernel
theorem d_R_isKnown_22 : decode c_R_isKnown 22 = .ok (.iload_n 1, 1) := by decide +kernel
theorem d_R_isKnown_23 : decode c_R_isKnown 23 = .ok (.baload, 1) := by decide +kernel
theorem d_R_isKnown_24 : decode c_R_isKnown 24 = .ok (.ifCond .ne 7, 3) := by decide +kernel
theorem d_R_isKnown_27 : decode c_R_isKnown 27 = .ok (.iconst 1, 1) := by decide +kernel
theorem d_R_isKnown_28 : decode c_R_isKnown 28 = .ok (.goto 4, 3) := by decide +kernel
theorem d_R_isKnown_31 : decode c_R_isKnown 31 = .ok (.iconst 0, 1) := by decide +kernel
theorem d_R_isKnown_32 : decode c_R_isKnown 32 = .ok (.ireturn, 1) := by decide +kernel
theorem d_R_mirrorOff_0 : decode c_R_mirrorOff 0 = .ok (.iconst 0, 1) := by decide +kernel
theorem d_R_mirrorOff_1 : decode c_R_mirrorOff 1 = .ok (.istore_n 2, 1) := by decide +kernel
theorem d_R_mirrorOff_2 : decode c_R_mirrorOff 2 = .ok (.iconst 0, 1) := by decide +kernel
theorem d_R_mirrorOff_3 : decode c_R_mirrorOff 3 = .ok (.istore_n 3, 1) := by decide +kernel
theorem d_R_mirrorOff_4 : decode c_R_mirrorOff 4 = .ok (.iload_n 3, 1) := by decide +kernel
theorem d_R_mirrorOff_5 : decode c_R_mirrorOff 5 = .ok (.iload_n 1, 1) := by decide +kernel
theorem d_R_mirrorOff_6 : decode c_R_mirrorOff 6 = .ok (.iload_n 3, 1) := by decide +kernel
theorem d_R_mirrorOff_7 : decode c_R_mirrorOff 7 = .ok (.isub, 1) := by decide +kernel
theorem d_R_mirrorOff_8 : decode c_R_mirrorOff 8 = .ok (.if_icmp .ge 52, 3) := by decide +kernel
theorem d_R_mirrorOff_11 : decode c_R_mirrorOff 11 = .ok (.aload_n 0, 1) := by decide +kernel
theorem d_R_mirrorOff_12 : decode c_R_mirrorOff 12 = .ok (.iload_n 3, 1) := by decide +kernel
theorem d_R_mirrorOff_13 : decode c_R_mirrorOff 13 = .ok (.invokevirtual 29, 3) := by decide +kernel
theorem d_R_mirrorOff_16 : decode c_R_mirrorOff 16 = .ok (.ifCond .eq 38, 3) := by decide +kernel
theorem d_R_mirrorOff_19 : decode c_R_mirrorOff 19 = .ok (.aload_n 0, 1) := by decide +kernel
theorem d_R_mirrorOff_20 : decode c_R_mirrorOff 20 = .ok (.iload_n 1, 1) := by decide +kernel
theorem d_R_mirrorOff_21 : decode c_R_mirrorOff 21 = .ok (.iload_n 3, 1) := by decide +kernel
theorem d_R_mirrorOff_22 : decode c_R_mirrorOff 22 = .ok (.isub, 1) := by decide +kernel
theorem d_R_mirrorOff_23 : decode c_R_mirrorOff 23 = .ok (.invokevirtual 29, 3) := by decide +kernel
theorem d_R_mirrorOff_26 : decode c_R_mirrorOff 26 = .ok (.ifCond .eq 28, 3) := by decide +kernel
theorem d_R_mirrorOff_29 : decode c_R_mirrorOff 29 = .ok (.aload_n 0, 1) := by decide +kernel
theorem d_R_mirrorOff_30 : decode c_R_mirrorOff 30 = .ok (.getfield 9, 3) := by decide +kernel
theorem d_R_mirrorOff_33 : decode c_R_mirrorOff 33 = .ok (.iload_n 3, 1) := by decide +kernel
theorem d_R_mirrorOff_34 : decode c_R_mirrorOff 34 = .ok (.iaload, 1) := by decide +kernel
theorem d_R_mirrorOff_35 : decode c_R_mirrorOff 35 = .ok (.aload_n 0, 1) := by decide +kernel
theorem d_R_mirrorOff_36 : decode c_R_mirrorOff 36 = .ok (.getfield 9, 3) := by decide +kernel
theorem d_R_mirrorOff_39 : decode c_R_mirrorOff 39 = .ok (.iload_n 1, 1) := by decide +kernel
theorem d_R_mirrorOff_40 : decode c_R_mirrorOff 40 = .ok (.iload_n 3, 1) := by decide +kernel
theorem d_R_mirrorOff_41 : decode c_R_mirrorOff 41 = .ok (.isub, 1) := by decide +kernel
theorem d_R_mirrorOff_42 : decode c_R_mirrorOff 42 = .ok (.iaload, 1) := by decide +kernel
theorem d_R_mirrorOff_43 : decode c_R_mirrorOff 43 = .ok (.isub, 1) := by decide +kernel
theorem d_R_mirrorOff_44 : decode c_R_mirrorOff 44 = .ok (.istore 4, 2) := by decide +kernel
theorem d_R_mirrorOff_46 : decode c_R_mirrorOff 46 = .ok (.iload_n 2, 1) := by decide +kernel
theorem d_R_mirrorOff_47 : decode c_R_mirrorOff 47 = .ok (.iload 4, 2) := by decide +kernel
theorem d_R_mirrorOff_49 : decode c_R_mirrorOff 49 = .ok (.iload 4, 2) := by decide +kernel
theorem d_R_mirrorOff_51 : decode c_R_mirrorOff 51 = .ok (.imul, 1) := by decide +kernel
theorem d_R_mirrorOff_52 : decode c_R_mirrorOff 52 = .ok (.iadd, 1) := by decide +kernel
theorem d_R_mirrorOff_53 : decode c_R_mirrorOff 53 = .ok (.istore_n 2, 1) := by decide +kernel
theorem d_R_mirrorOff_54 : decode c_R_mirrorOff 54 = .ok (.iinc 3 1, 3) := by decide +kernel
theorem d_R_mirrorOff_57 : decode c_R_mirrorOff 57 = .ok (.goto (-53), 3) := by decide +kernel
theorem d_R_mirrorOff_60 : decode c_R_mirrorOff 60 = .ok (.iload_n 2, 1) := by decide +kernel
theorem d_R_mirrorOff_61 : decode c_R_mirrorOff 61 = .ok (.ireturn, 1) := by decide +kernel
theorem d_B_offer_0 : decode c_B_offer 0 = .ok (.aload_n 0, 1) := by decide +kernel
theorem d_B_offer_1 : decode c_B_offer 1 = .ok (.getfield 7, 3) := by decide +kernel
theorem d_B_offer_4 : decode c_B_offer 4 = .ok (.ifCond .eq 13, 3) := by decide +kernel
theorem d_B_offer_7 : decode c_B_offer 7 = .ok (.aload_n 0, 1) := by decide +kernel
theorem d_B_offer_8 : decode c_B_offer 8 = .ok (.iload_n 3, 1) := by decide +kernel
theorem d_B_offer_9 : decode c_B_offer 9 = .ok (.iload 4, 2) := by decide +kernel
theorem d_B_offer_11 : decode c_B_offer 11 = .ok (.invokevirtual 13, 3) := by decide +kernel
theorem d_B_offer_14 : decode c_B_offer 14 = .ok (.ifCond .eq 29, 3) := by decide +kernel
theorem d_B_offer_17 : decode c_B_offer 17 = .ok (.aload_n 0, 1) := by decide +kernel
theorem d_B_offer_18 : decode c_B_offer 18 = .ok (.iconst 1, 1) := by decide +kernel
theorem d_B_offer_19 : decode c_B_offer 19 = .ok (.putfield 7, 3) := by decide +kernel
theorem d_B_offer_22 : decode c_B_offer 22 = .ok (.aload_n 0, 1) := by decide +kernel
theorem d_B_offer_23 : decode c_B_offer 23 = .ok (.iload_n 1, 1) := by decide +kernel
theorem d_B_offer_24 : decode c_B_offer 24 = .ok (.putfield 17, 3) := by decide +kernel
theorem d_B_offer_27 : decode c_B_offer 27 = .ok (.aload_n 0, 1) := by decide +kernel
theorem d_B_offer_28 : decode c_B_offer 28 = .ok (.iload_n 2, 1) := by decide +kernel
theorem d_B_offer_29 : decode c_B_offer 29 = .ok (.putfield 21, 3) := by decide +kernel
theorem d_B_offer_32 : decode c_B_offer 32 = .ok (.aload_n 0, 1) := by decide +kernel
theorem d_B_offer_33 : decode c_B_offer 33 = .ok (.iload_n 3, 1) := by decide +kernel
theorem d_B_offer_34 : decode c_B_offer 34 = .ok (.putfield 24, 3) := by decide +kernel
theorem d_B_offer_37 : decode c_B_offer 37 = .ok (.aload_n 0, 1) := by decide +kernel
theorem d_B_offer_38 : decode c_B_offer 38 = .ok (.iload 4, 2) := by decide +kernel
theorem d_B_offer_40 : decode c_B_offer 40 = .ok (.putfield 27, 3) := by decide +kernel
theorem d_B_offer_43 : decode c_B_offer 43 = .ok (.return_, 1) := by decide +kernel
theorem d_B_isBetter_0 : decode c_B_isBetter 0 = .ok (.iload_n 1, 1) := by decide +kernel
theorem d_B_isBetter_1 : decode c_B_isBetter 1 = .ok (.i2l, 1) := by decide +kernel
theorem d_B_isBetter_2 : decode c_B_isBetter 2 = .ok (.aload_n 0, 1) := by decide +kernel
theorem d_B_isBetter_3 : decode c_B_isBetter 3 = .ok (.getfield 27, 3) := by decide +kernel
theorem d_B_isBetter_6 : decode c_B_isBetter 6 = .ok (.i2l, 1) := by decide +kernel
theorem d_B_isBetter_7 : decode c_B_isBetter 7 = .ok (.lmul, 1) := by decide +kernel
theorem d_B_isBetter_8 : decode c_B_isBetter 8 = .ok (.lstore_n 3, 1) := by decide +kernel
theorem d_B_isBetter_9 : decode c_B_isBetter 9 = .ok (.aload_n 0, 1) := by decide +kernel
theorem d_B_isBetter_10 : decode c_B_isBetter 10 = .ok (.getfield 24, 3) := by decide +kernel
theorem d_B_isBetter_13 : decode c_B_isBetter 13 = .ok (.i2l, 1) := by decide +kernel
theorem d_B_isBetter_14 : decode c_B_isBetter 14 = .ok (.iload_n 2, 1) := by decide +kernel
theorem d_B_isBetter_15 : decode c_B_isBetter 15 = .ok (.i2l, 1) := by decide +kernel
theorem d_B_isBetter_16 : decode c_B_isBetter 16 = .ok (.lmul, 1) := by decide +kernel
theorem d_B_isBetter_17 : decode c_B_isBetter 17 = .ok (.lstore 5, 2) := by decide +kernel
theorem d_B_isBetter_19 : decode c_B_isBetter 19 = .ok (.lload_n 3, 1) := by decide +kernel
theorem d_B_isBetter_20 : decode c_B_isBetter 20 = .ok (.lload 5, 2) := by decide +kernel
theorem d_B_isBetter_22 : decode c_B_isBetter 22 = .ok (.lcmp, 1) := by decide +kernel
theorem d_B_isBetter_23 : decode c_B_isBetter 23 = .ok (.ifCond .lt 18, 3) := by decide +kernel
theorem d_B_isBetter_26 : decode c_B_isBetter 26 = .ok (.lload_n 3, 1) := by decide +kernel
theorem d_B_isBetter_27 : decode c_B_isBetter 27 = .ok (.lload 5, 2) := by decide +kernel
theorem d_B_isBetter_29 : decode c_B_isBetter 29 = .ok (.lcmp, 1) := by decide +kernel
theorem d_B_isBetter_30 : decode c_B_isBetter 30 = .ok (.ifCond .ne 15, 3) := by decide +kernel
theorem d_B_isBetter_33 : decode c_B_isBetter 33 = .ok (.iload_n 2, 1) := by decide +kernel
theorem d_B_isBetter_34 : decode c_B_isBetter 34 = .ok (.aload_n 0, 1) := by decide +kernel
theorem d_B_isBetter_35 : decode c_B_isBetter 35 = .ok (.getfield 27, 3) := by decide +kernel
theorem d_B_isBetter_38 : decode c_B_isBetter 38 = .ok (.if_icmp .le 7, 3) := by decide +kernel
theorem d_B_isBetter_41 : decode c_B_isBetter 41 = .ok (.iconst 1, 1) := by decide +kernel
theorem d_B_isBetter_42 : decode c_B_isBetter 42 = .ok (.goto 4, 3) := by decide +kernel
theorem d_B_isBetter_45 : decode c_B_isBetter 45 = .ok (.iconst 0, 1) := by decide +kernel
theorem d_B_isBetter_46 : decode c_B_isBetter 46 = .ok (.ireturn, 1) := by decide +kernel
theorem d_R_repeatSum_0 : decode c_R_repeatSum 0 = .ok (.lconst 0, 1) := by decide +kernel
theorem d_R_repeatSum_1 : decode c_R_repeatSum 1 = .ok (.lstore_n 2, 1) := by decide +kernel
theorem d_R_repeatSum_2 : decode c_R_repeatSum 2 = .ok (.iconst 0, 1) := by decide +kernel
theorem d_R_repeatSum_3 : decode c_R_repeatSum 3 = .ok (.istore 4, 2) := by decide +kernel
theorem d_R_repeatSum_5 : decode c_R_repeatSum 5 = .ok (.iload 4, 2) := by decide +kernel
theorem d_R_repeatSum_7 : decode c_R_repeatSum 7 = .ok (.aload_n 0, 1) := by decide +kernel
theorem d_R_repeatSum_8 : decode c_R_repeatSum 8 = .ok (.getfield 9, 3) := by decide +kernel
theorem d_R_repeatSum_11 : decode c_R_repeatSum 11 = .ok (.arraylength, 1) := by decide +kernel
theorem d_R_repeatSum_12 : decode c_R_repeatSum 12 = .ok (.iload_n 1, 1) := by decide +kernel
theorem d_R_repeatSum_13 : decode c_R_repeatSum 13 = .ok (.isub, 1) := by decide +kernel
theorem d_R_repeatSum_14 : decode c_R_repeatSum 14 = .ok (.if_icmp .ge 58, 3) := by decide +kernel
theorem d_R_repeatSum_17 : decode c_R_repeatSum 17 = .ok (.aload_n 0, 1) := by decide +kernel
theorem d_R_repeatSum_18 : decode c_R_repeatSum 18 = .ok (.iload 4, 2) := by decide +kernel
theorem d_R_repeatSum_20 : decode c_R_repeatSum 20 = .ok (.invokevirtual 29, 3) := by decide +kernel
theorem d_R_repeatSum_23 : decode c_R_repeatSum 23 = .ok (.ifCond .eq 43, 3) := by decide +kernel
theorem d_R_repeatSum_26 : decode c_R_repeatSum 26 = .ok (.aload_n 0, 1) := by decide +kernel
theorem d_R_repeatSum_27 : decode c_R_repeatSum 27 = .ok (.iload 4, 2) := by decide +kernel
theorem d_R_repeatSum_29 : decode c_R_repeatSum 29 = .ok (.iload_n 1, 1) := by decide +kernel
theorem d_R_repeatSum_30 : decode c_R_repeatSum 30 = .ok (.iadd, 1) := by decide +kernel
theorem d_R_repeatSum_31 : decode c_R_repeatSum 31 = .ok (.invokevirtual 29, 3) := by decide +kernel
theorem d_R_repeatSum_34 : decode c_R_repeatSum 34 = .ok (.ifCond .eq 32, 3) := by decide +kernel
theorem d_R_repeatSum_37 : decode c_R_repeatSum 37 = .ok (.lload_n 2, 1) := by decide +kernel
theorem d_R_repeatSum_38 : decode c_R_repeatSum 38 = .ok (.aload_n 0, 1) := by decide +kernel
theorem d_R_repeatSum_39 : decode c_R_repeatSum 39 = .ok (.getfield 9, 3) := by decide +kernel
theorem d_R_repeatSum_42 : decode c_R_repeatSum 42 = .ok (.iload 4, 2) := by decide +kernel
theorem d_R_repeatSum_44 : decode c_R_repeatSum 44 = .ok (.iaload, 1) := by decide +kernel
theorem d_R_repeatSum_45 : decode c_R_repeatSum 45 = .ok (.sipush 128, 3) := by decide +kernel
theorem d_R_repeatSum_48 : decode c_R_repeatSum 48 = .ok (.isub, 1) := by decide +kernel
theorem d_R_repeatSum_49 : decode c_R_repeatSum 49 = .ok (.aload_n 0, 1) := by decide +kernel
theorem d_R_repeatSum_50 : decode c_R_repeatSum 50 = .ok (.getfield 9, 3) := by decide +kernel
theorem d_R_repeatSum_53 : decode c_R_repeatSum 53 = .ok (.iload 4, 2) := by decide +kernel
theorem d_R_repeatSum_55 : decode c_R_repeatSum 55 = .ok (.iload_n 1, 1) := by decide +kernel
theorem d_R_repeatSum_56 : decode c_R_repeatSum 56 = .ok (.iadd, 1) := by decide +kernel
theorem d_R_repeatSum_57 : decode c_R_repeatSum 57 = .ok (.iaload, 1) := by decide +kernel
theorem d_R_repeatSum_58 : decode c_R_repeatSum 58 = .ok (.sipush 128, 3) := by decide +kernel
theorem d_R_repeatSum_61 : decode c_R_repeatSum 61 = .ok (.isub, 1) := by decide +kernel
theorem d_R_repeatSum_62 : decode c_R_repeatSum 62 = .ok (.imul, 1) := by decide +kernel
theorem d_R_repeatSum_63 : decode c_R_repeatSum 63 = .ok (.i2l, 1) := by decide +kernel
theorem d_R_repeatSum_64 : decode c_R_repeatSum 64 = .ok (.ladd, 1) := by decide +kernel
theorem d_R_repeatSum_65 : decode c_R_repeatSum 65 = .ok (.lstore_n 2, 1) := by decide +kernel
theorem d_R_repeatSum_66 : decode c_R_repeatSum 66 = .ok (.iinc 4 1, 3) := by decide +kernel
theorem d_R_repeatSum_69 : decode c_R_repeatSum 69 = .ok (.goto (-64), 3) := by decide +kernel
theorem d_R_repeatSum_72 : decode c_R_repeatSum 72 = .ok (.lload_n 2, 1) := by decide +kernel
theorem d_R_repeatSum_73 : decode c_R_repeatSum 73 = .ok (.lreturn, 1) := by decide +kernel
theorem d_R_guessLost_0 : decode c_R_guessLost 0 = .ok (.iconst 0, 1) := by decide +kernel
theorem d_R_guessLost_1 : decode c_R_guessLost 1 = .ok (.istore_n 3, 1) := by decide +kernel
theorem d_R_guessLost_2 : decode c_R_guessLost 2 = .ok (.iconst 0, 1) := by decide +kernel
theorem d_R_guessLost_3 : decode c_R_guessLost 3 = .ok (.istore 4, 2) := by decide +kernel
theorem d_R_guessLost_5 : decode c_R_guessLost 5 = .ok (.iload 4, 2) := by decide +kernel
theorem d_R_guessLost_7 : decode c_R_guessLost 7 = .ok (.aload_n 0, 1) := by decide +kernel
theorem d_R_guessLost_8 : decode c_R_guessLost 8 = .ok (.getfield 9, 3) := by decide +kernel
theorem d_R_guessLost_11 : decode c_R_guessLost 11 = .ok (.arraylength, 1) := by decide +kernel
theorem d_R_guessLost_12 : decode c_R_guessLost 12 = .ok (.if_icmp .ge 68, 3) := by decide +kernel
theorem d_R_guessLost_15 : decode c_R_guessLost 15 = .ok (.aload_n 0, 1) := by decide +kernel
theorem d_R_guessLost_16 : decode c_R_guessLost 16 = .ok (.getfield 9, 3) := by decide +kernel
theorem d_R_guessLost_19 : decode c_R_guessLost 19 = .ok (.iload 4, 2) := by decide +kernel
theorem d_R_guessLost_21 : decode c_R_guessLost 21 = .ok (.iaload, 1) := by decide +kernel
theorem d_R_guessLost_22 : decode c_R_guessLost 22 = .ok (.iconst (-1), 1) := by decide +kernel
theorem d_R_guessLost_23 : decode c_R_guessLost 23 = .ok (.if_icmp .ne 14, 3) := by decide +kernel
theorem d_R_guessLost_26 : decode c_R_guessLost 26 = .ok (.aload_n 0, 1) := by decide +kernel
theorem d_R_guessLost_27 : decode c_R_guessLost 27 = .ok (.iload 4, 2) := by decide +kernel
theorem d_R_guessLost_29 : decode c_R_guessLost 29 = .ok (.iload_n 1, 1) := by decide +kernel
theorem d_R_guessLost_30 : decode c_R_guessLost 30 = .ok (.iload_n 2, 1) := by decide +kernel
theorem d_R_guessLost_31 : decode c_R_guessLost 31 = .ok (.invokevirtual 32, 3) := by decide +kernel
theorem d_R_guessLost_34 : decode c_R_guessLost 34 = .ok (.goto 4, 3) := by decide +kernel
theorem d_R_guessLost_37 : decode c_R_guessLost 37 = .ok (.iconst (-1), 1) := by decide +kernel
theorem d_R_guessLost_38 : decode c_R_guessLost 38 = .ok (.istore 5, 2) := by decide +kernel
theorem d_R_guessLost_40 : decode c_R_guessLost 40 = .ok (.aload_n 0, 1) := by decide +kernel
theorem d_R_guessLost_41 : decode c_R_guessLost 41 = .ok (.iload 5, 2) := by decide +kernel
theorem d_R_guessLost_43 : decode c_R_guessLost 43 = .ok (.invokevirtual 25, 3) := by decide +kernel
theorem d_R_guessLost_46 : decode c_R_guessLost 46 = .ok (.ifCond .eq 28, 3) := by decide +kernel
theorem d_R_guessLost_49 : decode c_R_guessLost 49 = .ok (.aload_n 0, 1) := by decide +kernel
theorem d_R_guessLost_50 : decode c_R_guessLost 50 = .ok (.getfield 9, 3) := by decide +kernel
theorem d_R_guessLost_53 : decode c_R_guessLost 53 = .ok (.iload 4, 2) := by decide +kernel
theorem d_R_guessLost_55 : decode c_R_guessLost 55 = .ok (.aload_n 0, 1) := by decide +kernel
theorem d_R_guessLost_56 : decode c_R_guessLost 56 = .ok (.getfield 9, 3) := by decide +kernel
theorem d_R_guessLost_59 : decode c_R_guessLost 59 = .ok (.iload 5, 2) := by decide +kernel
theorem d_R_guessLost_61 : decode c_R_guessLost 61 = .ok (.iaload, 1) := by decide +kernel
theorem d_R_guessLost_62 : decode c_R_guessLost 62 = .ok (.iastore, 1) := by decide +kernel
theorem d_R_guessLost_63 : decode c_R_guessLost 63 = .ok (.aload_n 0, 1) := by decide +kernel
theorem d_R_guessLost_64 : decode c_R_guessLost 64 = .ok (.getfield 15, 3) := by decide +kernel
theorem d_R_guessLost_67 : decode c_R_guessLost 67 = .ok (.iload 4, 2) := by decide +kernel
theorem d_R_guessLost_69 : decode c_R_guessLost 69 = .ok (.iconst 1, 1) := by decide +kernel
theorem d_R_guessLost_70 : decode c_R_guessLost 70 = .ok (.bastore, 1) := by decide +kernel
theorem d_R_guessLost_71 : decode c_R_guessLost 71 = .ok (.iinc 3 1, 3) := by decide +kernel
theorem d_R_guessLost_74 : decode c_R_guessLost 74 = .ok (.iinc 4 1, 3) := by decide +kernel
theorem d_R_guessLost_77 : decode c_R_guessLost 77 = .ok (.goto (-72), 3) := by decide +kernel
theorem d_R_guessLost_80 : decode c_R_guessLost 80 = .ok (.iload_n 3, 1) := by decide +kernel
theorem d_R_guessLost_81 : decode c_R_guessLost 81 = .ok (.ireturn, 1) := by decide +kernel
theorem d_R_sourceFor_0 : decode c_R_sourceFor 0 = .ok (.iconst 1, 1) := by decide +kernel
theorem d_R_sourceFor_1 : decode c_R_sourceFor 1 = .ok (.istore 4, 2) := by decide +kernel
theorem d_R_sourceFor_3 : decode c_R_sourceFor 3 = .ok (.iload_n 2, 1) := by decide +kernel
theorem d_R_sourceFor_4 : decode c_R_sourceFor 4 = .ok (.ifCond .le 56, 3) := by decide +kernel
theorem d_R_sourceFor_7 : decode c_R_sourceFor 7 = .ok (.iload 4, 2) := by decide +kernel
theorem d_R_sourceFor_9 : decode c_R_sourceFor 9 = .ok (.bipush 8, 2) := by decide +kernel
theorem d_R_sourceFor_11 : decode c_R_sourceFor 11 = .ok (.if_icmp .gt 49, 3) := by decide +kernel
theorem d_R_sourceFor_14 : decode c_R_sourceFor 14 = .ok (.aload_n 0, 1) := by decide +kernel
theorem d_R_sourceFor_15 : decode c_R_sourceFor 15 = .ok (.iload_n 1, 1) := by decide +kernel
theorem d_R_sourceFor_16 : decode c_R_sourceFor 16 = .ok (.iload 4, 2) := by decide +kernel
theorem d_R_sourceFor_18 : decode c_R_sourceFor 18 = .ok (.iload_n 2, 1) := by decide +kernel
theorem d_R_sourceFor_19 : decode c_R_sourceFor 19 = .ok (.imul, 1) := by decide +kernel
theorem d_R_sourceFor_20 : decode c_R_sourceFor 20 = .ok (.isub, 1) := by decide +kernel
theorem d_R_sourceFor_21 : decode c_R_sourceFor 21 = .ok (.invokevirtual 29, 3) := by decide +kernel
theorem d_R_sourceFor_24 : decode c_R_sourceFor 24 = .ok (.ifCond .eq 10, 3) := by decide +kernel
theorem d_R_sourceFor_27 : decode c_R_sourceFor 27 = .ok (.iload_n 1, 1) := by decide +kernel
theorem d_R_sourceFor_28 : decode c_R_sourceFor 28 = .ok (.iload 4, 2) := by decide +kernel
theorem d_R_sourceFor_30 : decode c_R_sourceFor 30 = .ok (.iload_n 2, 1) := by decide +kernel
theorem d_R_sourceFor_31 : decode c_R_sourceFor 31 = .ok (.imul, 1) := by decide +kernel
theorem d_R_sourceFor_32 : decode c_R_sourceFor 32 = .ok (.isub, 1) := by decide +kernel
theorem d_R_sourceFor_33 : decode c_R_sourceFor 33 = .ok (.ireturn, 1) := by decide +kernel
theorem d_R_sourceFor_34 : decode c_R_sourceFor 34 = .ok (.aload_n 0, 1) := by decide +kernel
theorem d_R_sourceFor_35 : decode c_R_sourceFor 35 = .ok (.iload_n 1, 1) := by decide +kernel
theorem d_R_sourceFor_36 : decode c_R_sourceFor 36 = .ok (.iload 4, 2) := by decide +kernel
theorem d_R_sourceFor_38 : decode c_R_sourceFor 38 = .ok (.iload_n 2, 1) := by decide +kernel
theorem d_R_sourceFor_39 : decode c_R_sourceFor 39 = .ok (.imul, 1) := by decide +kernel
theorem d_R_sourceFor_40 : decode c_R_sourceFor 40 = .ok (.iadd, 1) := by decide +kernel
theorem d_R_sourceFor_41 : decode c_R_sourceFor 41 = .ok (.invokevirtual 29, 3) := by decide +kernel
theorem d_R_sourceFor_44 : decode c_R_sourceFor 44 = .ok (.ifCond .eq 10, 3) := by decide +kernel
theorem d_R_sourceFor_47 : decode c_R_sourceFor 47 = .ok (.iload_n 1, 1) := by decide +kernel
theorem d_R_sourceFor_48 : decode c_R_sourceFor 48 = .ok (.iload 4, 2) := by decide +kernel
theorem d_R_sourceFor_50 : decode c_R_sourceFor 50 = .ok (.iload_n 2, 1) := by decide +kernel
theorem d_R_sourceFor_51 : decode c_R_sourceFor 51 = .ok (.imul, 1) := by decide +kernel
theorem d_R_sourceFor_52 : decode c_R_sourceFor 52 = .ok (.iadd, 1) := by decide +kernel
theorem d_R_sourceFor_53 : decode c_R_sourceFor 53 = .ok (.ireturn, 1) := by decide +kernel
theorem d_R_sourceFor_54 : decode c_R_sourceFor 54 = .ok (.iinc 4 1, 3) := by decide +kernel
theorem d_R_sourceFor_57 : decode c_R_sourceFor 57 = .ok (.goto (-54), 3) := by decide +kernel
theorem d_R_sourceFor_60 : decode c_R_sourceFor 60 = .ok (.iload_n 3, 1) := by decide +kernel
theorem d_R_sourceFor_61 : decode c_R_sourceFor 61 = .ok (.iconst (-1), 1) := by decide +kernel
theorem d_R_sourceFor_62 : decode c_R_sourceFor 62 = .ok (.if_icmp .eq 19, 3) := by decide +kernel
theorem d_R_sourceFor_65 : decode c_R_sourceFor 65 = .ok (.aload_n 0, 1) := by decide +kernel
theorem d_R_sourceFor_66 : decode c_R_sourceFor 66 = .ok (.iload_n 3, 1) := by decide +kernel
theorem d_R_sourceFor_67 : decode c_R_sourceFor 67 = .ok (.iload_n 1, 1) := by decide +kernel
theorem d_R_sourceFor_68 : decode c_R_sourceFor 68 = .ok (.isub, 1) := by decide +kernel
theorem d_R_sourceFor_69 : decode c_R_sourceFor 69 = .ok (.invokevirtual 29, 3) := by decide +kernel
theorem d_R_sourceFor_72 : decode c_R_sourceFor 72 = .ok (.ifCond .eq 9, 3) := by decide +kernel
theorem d_R_sourceFor_75 : decode c_R_sourceFor 75 = .ok (.iload_n 3, 1) := by decide +kernel
theorem d_R_sourceFor_76 : decode c_R_sourceFor 76 = .ok (.iload_n 1, 1) := by decide +kernel
theorem d_R_sourceFor_77 : decode c_R_sourceFor 77 = .ok (.isub, 1) := by decide +kernel
theorem d_R_sourceFor_78 : decode c_R_sourceFor 78 = .ok (.goto 4, 3) := by decide +kernel
theorem d_R_sourceFor_81 : decode c_R_sourceFor 81 = .ok (.iconst (-1), 1) := by decide +kernel
theorem d_R_sourceFor_82 : decode c_R_sourceFor 82 = .ok (.ireturn, 1) := by decide +kernel
theorem d_S_init_0 : decode c_S_init 0 = .ok (.aload_n 0, 1) := by decide +kernel
theorem d_S_init_1 : decode c_S_init 1 = .ok (.invokespecial 3, 3) := by decide +kernel
theorem d_S_init_4 : decode c_S_init 4 = .ok (.aload_n 0, 1) := by decide +kernel
theorem d_S_init_5 : decode c_S_init 5 = .ok (.iload_n 1, 1) := by decide +kernel
theorem d_S_init_6 : decode c_S_init 6 = .ok (.newarray .int, 2) := by decide +kernel
theorem d_S_init_8 : decode c_S_init 8 = .ok (.putfield 9, 3) := by decide +kernel
theorem d_S_init_11 : decode c_S_init 11 = .ok (.aload_n 0, 1) := by decide +kernel
theorem d_S_init_12 : decode c_S_init 12 = .ok (.getfield 9, 3) := by decide +kernel
theorem d_S_init_15 : decode c_S_init 15 = .ok (.sipush 128, 3) := by decide +kernel
theorem d_S_init_18 : decode c_S_init 18 = .ok (.invokestatic 15, 3) := by decide +kernel
theorem d_S_init_21 : decode c_S_init 21 = .ok (.return_, 1) := by decide +kernel
theorem d_S_has_0 : decode c_S_has 0 = .ok (.iload_n 1, 1) := by decide +kernel
theorem d_S_has_1 : decode c_S_has 1 = .ok (.ifCond .lt 16, 3) := by decide +kernel
theorem d_S_has_4 : decode c_S_has 4 = .ok (.iload_n 1, 1) := by decide +kernel
theorem d_S_has_5 : decode c_S_has 5 = .ok (.aload_n 0, 1) := by decide +kernel
theorem d_S_has_6 : decode c_S_has 6 = .ok (.getfield 9, 3) := by decide +kernel
theorem d_S_has_9 : decode c_S_has 9 = .ok (.arraylength, 1) := by decide +kernel
theorem d_S_has_10 : decode c_S_has 10 = .ok (.if_icmp .ge 7, 3) := by decide +kernel
theorem d_S_has_13 : decode c_S_has 13 = .ok (.iconst 1, 1) := by decide +kernel
theorem d_S_has_14 : decode c_S_has 14 = .ok (.goto 4, 3) := by decide +kernel
theorem d_S_has_17 : decode c_S_has 17 = .ok (.iconst 0, 1) := by decide +kernel
theorem d_S_has_18 : decode c_S_has 18 = .ok (.ireturn, 1) := by decide +kernel
theorem d_S_put_0 : decode c_S_put 0 = .ok (.aload_n 0, 1) := by decide +kernel
theorem d_S_put_1 : decode c_S_put 1 = .ok (.iload_n 1, 1) := by decide +kernel
theorem d_S_put_2 : decode c_S_put 2 = .ok (.invokevirtual 21, 3) := by decide +kernel
theorem d_S_put_5 : decode c_S_put 5 = .ok (.ifCond .eq 10, 3) := by decide +kernel
theorem d_S_put_8 : decode c_S_put 8 = .ok (.aload_n 0, 1) := by decide +kernel
theorem d_S_put_9 : decode c_S_put 9 = .ok (.getfield 9, 3) := by decide +kernel
theorem d_S_put_12 : decode c_S_put 12 = .ok (.iload_n 1, 1) := by decide +kernel
theorem d_S_put_13 : decode c_S_put 13 = .ok (.iload_n 2, 1) := by decide +kernel
theorem d_S_put_14 : decode c_S_put 14 = .ok (.iastore, 1) := by decide +kernel
theorem d_S_put_15 : decode c_S_put 15 = .ok (.return_, 1) := by decide +kernel
theorem d_S_coverAt_0 : decode c_S_coverAt 0 = .ok (.iconst 0, 1) := by decide +kernel
theorem d_S_coverAt_1 : decode c_S_coverAt 1 = .ok (.istore_n 3, 1) := by decide +kernel
theorem d_S_coverAt_2 : decode c_S_coverAt 2 = .ok (.iconst 0, 1) := by decide +kernel
theorem d_S_coverAt_3 : decode c_S_coverAt 3 = .ok (.istore 4, 2) := by decide +kernel
theorem d_S_coverAt_5 : decode c_S_coverAt 5 = .ok (.iload 4, 2) := by decide +kernel
theorem d_S_coverAt_7 : decode c_S_coverAt 7 = .ok (.aload_n 0, 1) := by decide +kernel
theorem d_S_coverAt_8 : decode c_S_coverAt 8 = .ok (.getfield 9, 3) := by decide +kernel
theorem d_S_coverAt_11 : decode c_S_coverAt 11 = .ok (.arraylength, 1) := by decide +kernel
theorem d_S_coverAt_12 : decode c_S_coverAt 12 = .ok (.if_icmp .ge 24, 3) := by decide +kernel
theorem d_S_coverAt_15 : decode c_S_coverAt 15 = .ok (.aload_n 1, 1) := by decide +kernel
theorem d_S_coverAt_16 : decode c_S_coverAt 16 = .ok (.iload_n 2, 1) := by decide +kernel
theorem d_S_coverAt_17 : decode c_S_coverAt 17 = .ok (.iload 4, 2) := by decide +kernel
theorem d_S_coverAt_19 : decode c_S_coverAt 19 = .ok (.iadd, 1) := by decide +kernel
theorem d_S_coverAt_20 : decode c_S_coverAt 20 = .ok (.invokevirtual 25, 3) := by decide +kernel
theorem d_S_coverAt_23 : decode c_S_coverAt 23 = .ok (.iconst (-1), 1) := by decide +kernel
theorem d_S_coverAt_24 : decode c_S_coverAt 24 = .ok (.if_icmp .eq 6, 3) := by decide +kernel
theorem d_S_coverAt_27 : decode c_S_coverAt 27 = .ok (.iinc 3 1, 3) := by decide +kernel
theorem d_S_coverAt_30 : decode c_S_coverAt 30 = .ok (.iinc 4 1, 3) := by decide +kernel
theorem d_S_coverAt_33 : decode c_S_coverAt 33 = .ok (.goto (-28), 3) := by decide +kernel
theorem d_S_coverAt_36 : decode c_S_coverAt 36 = .ok (.iload_n 3, 1) := by decide +kernel
theorem d_S_coverAt_37 : decode c_S_coverAt 37 = .ok (.ireturn, 1) := by decide +kernel
theorem d_S_leastCover_0 : decode c_S_leastCover 0 = .ok (.aload_n 0, 1) := by decide +kernel
theorem d_S_leastCover_1 : decode c_S_leastCover 1 = .ok (.getfield 9, 3) := by decide +kernel
theorem d_S_leastCover_4 : decode c_S_leastCover 4 = .ok (.arraylength, 1) := by decide +kernel
theorem d_S_leastCover_5 : decode c_S_leastCover 5 = .ok (.iconst 1, 1) := by decide +kernel
theorem d_S_leastCover_6 : decode c_S_leastCover 6 = .ok (.iadd, 1) := by decide +kernel
theorem d_S_leastCover_7 : decode c_S_leastCover 7 = .ok (.iconst 2, 1) := by decide +kernel
theorem d_S_leastCover_8 : decode c_S_leastCover 8 = .ok (.idiv, 1) := by decide +kernel
theorem d_S_leastCover_9 : decode c_S_leastCover 9 = .ok (.ireturn, 1) := by decide +kernel
theorem d_S_missAt_0 : decode c_S_missAt 0 = .ok (.iconst 0, 1) := by decide +kernel
theorem d_S_missAt_1 : decode c_S_missAt 1 = .ok (.istore_n 3, 1) := by decide +kernel
theorem d_S_missAt_2 : decode c_S_missAt 2 = .ok (.iconst 0, 1) := by decide +kernel
theorem d_S_missAt_3 : decode c_S_missAt 3 = .ok (.istore 4, 2) := by decide +kernel
theorem d_S_missAt_5 : decode c_S_missAt 5 = .ok (.iload 4, 2) := by decide +kernel
theorem d_S_missAt_7 : decode c_S_missAt 7 = .ok (.aload_n 0, 1) := by decide +kernel
theorem d_S_missAt_8 : decode c_S_missAt 8 = .ok (.getfield 9, 3) := by decide +kernel
theorem d_S_missAt_11 : decode c_S_missAt 11 = .ok (.arraylength, 1) := by decide +kernel
theorem d_S_missAt_12 : decode c_S_missAt 12 = .ok (.if_icmp .ge 41, 3) := by decide +kernel
theorem d_S_missAt_15 : decode c_S_missAt 15 = .ok (.aload_n 1, 1) := by decide +kernel
theorem d_S_missAt_16 : decode c_S_missAt 16 = .ok (.iload_n 2, 1) := by decide +kernel
theorem d_S_missAt_17 : decode c_S_missAt 17 = .ok (.iload 4, 2) := by decide +kernel
theorem d_S_missAt_19 : decode c_S_missAt 19 = .ok (.iadd, 1) := by decide +kernel
theorem d_S_missAt_20 : decode c_S_missAt 20 = .ok (.invokevirtual 25, 3) := by decide +kernel
theorem d_S_missAt_23 : decode c_S_missAt 23 = .ok (.istore 5, 2) := by decide +kernel
theorem d_S_missAt_25 : decode c_S_missAt 25 = .ok (.iload 5, 2) := by decide +kernel
theorem d_S_missAt_27 : decode c_S_missAt 27 = .ok (.iconst (-1), 1) := by decide +kernel
theorem d_S_missAt_28 : decode c_S_missAt 28 = .ok (.if_icmp .eq 19, 3) := by decide +kernel
theorem d_S_missAt_31 : decode c_S_missAt 31 = .ok (.iload_n 3, 1) := by decide +kernel
theorem d_S_missAt_32 : decode c_S_missAt 32 = .ok (.aload_n 0, 1) := by decide +kernel
theorem d_S_missAt_33 : decode c_S_missAt 33 = .ok (.getfield 9, 3) := by decide +kernel
theorem d_S_missAt_36 : decode c_S_missAt 36 = .ok (.iload 4, 2) := by decide +kernel
theorem d_S_missAt_38 : decode c_S_missAt 38 = .ok (.iaload, 1) := by decide +kernel
theorem d_S_missAt_39 : decode c_S_missAt 39 = .ok (.iload 5, 2) := by decide +kernel
theorem d_S_missAt_41 : decode c_S_missAt 41 = .ok (.isub, 1) := by decide +kernel
theorem d_S_missAt_42 : decode c_S_missAt 42 = .ok (.invokestatic 31, 3) := by decide +kernel
theorem d_S_missAt_45 : decode c_S_missAt 45 = .ok (.iadd, 1) := by decide +kernel
theorem d_S_missAt_46 : decode c_S_missAt 46 = .ok (.istore_n 3, 1) := by decide +kernel
theorem d_S_missAt_47 : decode c_S_missAt 47 = .ok (.iinc 4 1, 3) := by decide +kernel
theorem d_S_missAt_50 : decode c_S_missAt 50 = .ok (.goto (-45), 3) := by decide +kernel
theorem d_S_missAt_53 : decode c_S_missAt 53 = .ok (.iload_n 3, 1) := by decide +kernel
theorem d_S_missAt_54 : decode c_S_missAt 54 = .ok (.ireturn, 1) := by decide +kernel
theorem d_N_init_0 : decode c_N_init 0 = .ok (.aload_n 0, 1) := by decide +kernel
theorem d_N_init_1 : decode c_N_init 1 = .ok (.invokespecial 3, 3) := by decide +kernel
theorem d_N_init_4 : decode c_N_init 4 = .ok (.aload_n 0, 1) := by decide +kernel
theorem d_N_init_5 : decode c_N_init 5 = .ok (.iload_n 1, 1) := by decide +kernel
theorem d_N_init_6 : decode c_N_init 6 = .ok (.putfield 9, 3) := by decide +kernel
theorem d_N_init_9 : decode c_N_init 9 = .ok (.aload_n 0, 1) := by decide +kernel
theorem d_N_init_10 : decode c_N_init 10 = .ok (.iload_n 2, 1) := by decide +kernel
theorem d_N_init_11 : decode c_N_init 11 = .ok (.putfield 15, 3) := by decide +kernel
theorem d_N_init_14 : decode c_N_init 14 = .ok (.aload_n 0, 1) := by decide +kernel
theorem d_N_init_15 : decode c_N_init 15 = .ok (.iload_n 3, 1) := by decide +kernel
theorem d_N_init_16 : decode c_N_init 16 = .ok (.putfield 18, 3) := by decide +kernel
theorem d_N_init_19 : decode c_N_init 19 = .ok (.aload_n 0, 1) := by decide +kernel
theorem d_N_init_20 : decode c_N_init 20 = .ok (.iload 4, 2) := by decide +kernel
theorem d_N_init_22 : decode c_N_init 22 = .ok (.putfield 21, 3) := by decide +kernel
theorem d_N_init_25 : decode c_N_init 25 = .ok (.return_, 1) := by decide +kernel
theorem d_N_isAnsweredBy_0 : decode c_N_isAnsweredBy 0 = .ok (.aload_n 0, 1) := by decide +kernel
theorem d_N_isAnsweredBy_1 : decode c_N_isAnsweredBy 1 = .ok (.invokevirtual 24, 3) := by decide +kernel
theorem d_N_isAnsweredBy_4 : decode c_N_isAnsweredBy 4 = .ok (.ifCond .eq 19, 3) := by decide +kernel
theorem d_N_isAnsweredBy_7 : decode c_N_isAnsweredBy 7 = .ok (.iload_n 1, 1) := by decide +kernel
theorem d_N_isAnsweredBy_8 : decode c_N_isAnsweredBy 8 = .ok (.aload_n 0, 1) := by decide +kernel
theorem d_N_isAnsweredBy_9 : decode c_N_isAnsweredBy 9 = .ok (.getfield 9, 3) := by decide +kernel
theorem d_N_isAnsweredBy_12 : decode c_N_isAnsweredBy 12 = .ok (.ishr, 1) := by decide +kernel
theorem d_N_isAnsweredBy_13 : decode c_N_isAnsweredBy 13 = .ok (.iconst 1, 1) := by decide +kernel
theorem d_N_isAnsweredBy_14 : decode c_N_isAnsweredBy 14 = .ok (.iand, 1) := by decide +kernel
theorem d_N_isAnsweredBy_15 : decode c_N_isAnsweredBy 15 = .ok (.iconst 1, 1) := by decide +kernel
theorem d_N_isAnsweredBy_16 : decode c_N_isAnsweredBy 16 = .ok (.if_icmp .ne 7, 3) := by decide +kernel
theorem d_N_isAnsweredBy_19 : decode c_N_isAnsweredBy 19 = .ok (.iconst 1, 1) := by decide +kernel
theorem d_N_isAnsweredBy_20 : decode c_N_isAnsweredBy 20 = .ok (.goto 4, 3) := by decide +kernel
theorem d_N_isAnsweredBy_23 : decode c_N_isAnsweredBy 23 = .ok (.iconst 0, 1) := by decide +kernel
theorem d_N_isAnsweredBy_24 : decode c_N_isAnsweredBy 24 = .ok (.ireturn, 1) := by decide +kernel
theorem d_N_isQuestion_0 : decode c_N_isQuestion 0 = .ok (.aload_n 0, 1) := by decide +kernel
theorem d_N_isQuestion_1 : decode c_N_isQuestion 1 = .ok (.getfield 9, 3) := by decide +kernel
theorem d_N_isQuestion_4 : decode c_N_isQuestion 4 = .ok (.iconst (-1), 1) := by decide +kernel
theorem d_N_isQuestion_5 : decode c_N_isQuestion 5 = .ok (.if_icmp .eq 7, 3) := by decide +kernel
theorem d_N_isQuestion_8 : decode c_N_isQuestion 8 = .ok (.iconst 1, 1) := by decide +kernel
theorem d_N_isQuestion_9 : decode c_N_isQuestion 9 = .ok (.goto 4, 3) := by decide +kernel
theorem d_N_isQuestion_12 : decode c_N_isQuestion 12 = .ok (.iconst 0, 1) := by decide +kernel
theorem d_N_isQuestion_13 : decode c_N_isQuestion 13 = .ok (.ireturn, 1) := by decide +kernel
theorem d_N_nextBy_0 : decode c_N_nextBy 0 = .ok (.iload_n 1, 1) := by decide +kernel
theorem d_N_nextBy_1 : decode c_N_nextBy 1 = .ok (.aload_n 0, 1) := by decide +kernel
theorem d_N_nextBy_2 : decode c_N_nextBy 2 = .ok (.getfield 9, 3) := by decide +kernel
theorem d_N_nextBy_5 : decode c_N_nextBy 5 = .ok (.ishr, 1) := by decide +kernel
theorem d_N_nextBy_6 : decode c_N_nextBy 6 = .ok (.iconst 1, 1) := by decide +kernel
theorem d_N_nextBy_7 : decode c_N_nextBy 7 = .ok (.iand, 1) := by decide +kernel
theorem d_N_nextBy_8 : decode c_N_nextBy 8 = .ok (.iconst 1, 1) := by decide +kernel
theorem d_N_nextBy_9 : decode c_N_nextBy 9 = .ok (.if_icmp .ne 10, 3) := by decide +kernel
theorem d_N_nextBy_12 : decode c_N_nextBy 12 = .ok (.aload_n 0, 1) := by decide +kernel
theorem d_N_nextBy_13 : decode c_N_nextBy 13 = .ok (.getfield 21, 3) := by decide +kernel
theorem d_N_nextBy_16 : decode c_N_nextBy 16 = .ok (.goto 7, 3) := by decide +kernel
theorem d_N_nextBy_19 : decode c_N_nextBy 19 = .ok (.aload_n 0, 1) := by decide +kernel
theorem d_N_nextBy_20 : decode c_N_nextBy 20 = .ok (.getfield 18, 3) := by decide +kernel
theorem d_N_nextBy_23 : decode c_N_nextBy 23 = .ok (.ireturn, 1) := by decide +kernel
theorem d_U_init_0 : decode c_U_init 0 = .ok (.aload_n 0, 1) := by decide +kernel
theorem d_U_init_1 : decode c_U_init 1 = .ok (.invokespecial 1, 3) := by decide +kernel
theorem d_U_init_4 : decode c_U_init 4 = .ok (.aload_n 0, 1) := by decide +kernel
theorem d_U_init_5 : decode c_U_init 5 = .ok (.iload_n 1, 1) := by decide +kernel
theorem d_U_init_6 : decode c_U_init 6 = .ok (.putfield 7, 3) := by decide +kernel
theorem d_U_init_9 : decode c_U_init 9 = .ok (.aload_n 0, 1) := by decide +kernel
theorem d_U_init_10 : decode c_U_init 10 = .ok (.iload_n 2, 1) := by decide +kernel
theorem d_U_init_11 : decode c_U_init 11 = .ok (.putfield 13, 3) := by decide +kernel
theorem d_U_init_14 : decode c_U_init 14 = .ok (.aload_n 0, 1) := by decide +kernel
theorem d_U_init_15 : decode c_U_init 15 = .ok (.iload_n 3, 1) := by decide +kernel
theorem d_U_init_16 : decode c_U_init 16 = .ok (.putfield 16, 3) := by decide +kernel
theorem d_U_init_19 : decode c_U_init 19 = .ok (.aload_n 0, 1) := by decide +kernel
theorem d_U_init_20 : decode c_U_init 20 = .ok (.iload 4, 2) := by decide +kernel
theorem d_U_init_22 : decode c_U_init 22 = .ok (.putfield 19, 3) := by decide +kernel
theorem d_U_init_25 : decode c_U_init 25 = .ok (.aload_n 0, 1) := by decide +kernel
theorem d_U_init_26 : decode c_U_init 26 = .ok (.iload 5, 2) := by decide +kernel
theorem d_U_init_28 : decode c_U_init 28 = .ok (.putfield 22, 3) := by decide +kernel
theorem d_U_init_31 : decode c_U_init 31 = .ok (.aload_n 0, 1) := by decide +kernel
theorem d_U_init_32 : decode c_U_init 32 = .ok (.iload 6, 2) := by decide +kernel
theorem d_U_init_34 : decode c_U_init 34 = .ok (.putfield 25, 3) := by decide +kernel
theorem d_U_init_37 : decode c_U_init 37 = .ok (.return_, 1) := by decide +kernel
theorem d_U_holdsOn_0 : decode c_U_holdsOn 0 = .ok (.aload_n 0, 1) := by decide +kernel
theorem d_U_holdsOn_1 : decode c_U_holdsOn 1 = .ok (.getfield 7, 3) := by decide +kernel
theorem d_U_holdsOn_4 : decode c_U_holdsOn 4 = .ok (.istore_n 2, 1) := by decide +kernel
theorem d_U_holdsOn_5 : decode c_U_holdsOn 5 = .ok (.iload_n 2, 1) := by decide +kernel
theorem d_U_holdsOn_6 : decode c_U_holdsOn 6 = .ok (.aload_n 0, 1) := by decide +kernel
theorem d_U_holdsOn_7 : decode c_U_holdsOn 7 = .ok (.getfield 13, 3) := by decide +kernel
theorem d_U_holdsOn_10 : decode c_U_holdsOn 10 = .ok (.if_icmp .gt 30, 3) := by decide +kernel
theorem d_U_holdsOn_13 : decode c_U_holdsOn 13 = .ok (.aload_n 1, 1) := by decide +kernel
theorem d_U_holdsOn_14 : decode c_U_holdsOn 14 = .ok (.iload_n 2, 1) := by decide +kernel
theorem d_U_holdsOn_15 : decode c_U_holdsOn 15 = .ok (.invokevirtual 28, 3) := by decide +kernel
theorem d_U_holdsOn_18 : decode c_U_holdsOn 18 = .ok (.aload_n 0, 1) := by decide +kernel
theorem d_U_holdsOn_19 : decode c_U_holdsOn 19 = .ok (.getfield 16, 3) := by decide +kernel
theorem d_U_holdsOn_22 : decode c_U_holdsOn 22 = .ok (.aload_n 0, 1) := by decide +kernel
theorem d_U_holdsOn_23 : decode c_U_holdsOn 23 = .ok (.getfield 19, 3) := by decide +kernel
theorem d_U_holdsOn_26 : decode c_U_holdsOn 26 = .ok (.invokestatic 34, 3) := by decide +kernel
theorem d_U_holdsOn_29 : decode c_U_holdsOn 29 = .ok (.ifCond .ne 5, 3) := by decide +kernel
theorem d_U_holdsOn_32 : decode c_U_holdsOn 32 = .ok (.iconst 0, 1) := by decide +kernel
theorem d_U_holdsOn_33 : decode c_U_holdsOn 33 = .ok (.ireturn, 1) := by decide +kernel
theorem d_U_holdsOn_34 : decode c_U_holdsOn 34 = .ok (.iinc 2 1, 3) := by decide +kernel
theorem d_U_holdsOn_37 : decode c_U_holdsOn 37 = .ok (.goto (-32), 3) := by decide +kernel
theorem d_U_holdsOn_40 : decode c_U_holdsOn 40 = .ok (.iconst 1, 1) := by decide +kernel
theorem d_U_holdsOn_41 : decode c_U_holdsOn 41 = .ok (.ireturn, 1) := by decide +kernel
