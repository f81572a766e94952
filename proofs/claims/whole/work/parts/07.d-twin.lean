theorem d_T_init_0 : decode c_T_init 0 = .ok (.aload_n 0, 1) := by decide +kernel
theorem d_T_init_1 : decode c_T_init 1 = .ok (.invokespecial 1, 3) := by decide +kernel
theorem d_T_init_4 : decode c_T_init 4 = .ok (.aload_n 0, 1) := by decide +kernel
theorem d_T_init_5 : decode c_T_init 5 = .ok (.bipush 64, 2) := by decide +kernel
theorem d_T_init_7 : decode c_T_init 7 = .ok (.newarray .int, 2) := by decide +kernel
theorem d_T_init_9 : decode c_T_init 9 = .ok (.putfield 7, 3) := by decide +kernel
theorem d_T_init_12 : decode c_T_init 12 = .ok (.aload_n 0, 1) := by decide +kernel
theorem d_T_init_13 : decode c_T_init 13 = .ok (.bipush 64, 2) := by decide +kernel
theorem d_T_init_15 : decode c_T_init 15 = .ok (.newarray .boolean, 2) := by decide +kernel
theorem d_T_init_17 : decode c_T_init 17 = .ok (.putfield 13, 3) := by decide +kernel
theorem d_T_init_20 : decode c_T_init 20 = .ok (.aload_n 0, 1) := by decide +kernel
theorem d_T_init_21 : decode c_T_init 21 = .ok (.bipush 8, 2) := by decide +kernel
theorem d_T_init_23 : decode c_T_init 23 = .ok (.newarray .int, 2) := by decide +kernel
theorem d_T_init_25 : decode c_T_init 25 = .ok (.putfield 17, 3) := by decide +kernel
theorem d_T_init_28 : decode c_T_init 28 = .ok (.aload_n 0, 1) := by decide +kernel
theorem d_T_init_29 : decode c_T_init 29 = .ok (.sipush 128, 3) := by decide +kernel
theorem d_T_init_32 : decode c_T_init 32 = .ok (.newarray .int, 2) := by decide +kernel
theorem d_T_init_34 : decode c_T_init 34 = .ok (.putfield 20, 3) := by decide +kernel
theorem d_T_init_37 : decode c_T_init 37 = .ok (.aload_n 0, 1) := by decide +kernel
theorem d_T_init_38 : decode c_T_init 38 = .ok (.bipush 16, 2) := by decide +kernel
theorem d_T_init_40 : decode c_T_init 40 = .ok (.newarray .int, 2) := by decide +kernel
theorem d_T_init_42 : decode c_T_init 42 = .ok (.putfield 23, 3) := by decide +kernel
theorem d_T_init_45 : decode c_T_init 45 = .ok (.aload_n 0, 1) := by decide +kernel
theorem d_T_init_46 : decode c_T_init 46 = .ok (.bipush 16, 2) := by decide +kernel
theorem d_T_init_48 : decode c_T_init 48 = .ok (.newarray .int, 2) := by decide +kernel
theorem d_T_init_50 : decode c_T_init 50 = .ok (.putfield 26, 3) := by decide +kernel
theorem d_T_init_53 : decode c_T_init 53 = .ok (.aload_n 0, 1) := by decide +kernel
theorem d_T_init_54 : decode c_T_init 54 = .ok (.bipush 16, 2) := by decide +kernel
theorem d_T_init_56 : decode c_T_init 56 = .ok (.newarray .int, 2) := by decide +kernel
theorem d_T_init_58 : decode c_T_init 58 = .ok (.putfield 29, 3) := by decide +kernel
theorem d_T_init_61 : decode c_T_init 61 = .ok (.aload_n 0, 1) := by decide +kernel
theorem d_T_init_62 : decode c_T_init 62 = .ok (.bipush 48, 2) := by decide +kernel
theorem d_T_init_64 : decode c_T_init 64 = .ok (.newarray .int, 2) := by decide +kernel
theorem d_T_init_66 : decode c_T_init 66 = .ok (.putfield 32, 3) := by decide +kernel
theorem d_T_init_69 : decode c_T_init 69 = .ok (.aload_n 0, 1) := by decide +kernel
theorem d_T_init_70 : decode c_T_init 70 = .ok (.iload_n 1, 1) := by decide +kernel
theorem d_T_init_71 : decode c_T_init 71 = .ok (.iconst 4, 1) := by decide +kernel
theorem d_T_init_72 : decode c_T_init 72 = .ok (.if_icmp .ge 7, 3) := by decide +kernel
theorem d_T_init_75 : decode c_T_init 75 = .ok (.iconst 4, 1) := by decide +kernel
theorem d_T_init_76 : decode c_T_init 76 = .ok (.goto 15, 3) := by decide +kernel
theorem d_T_init_79 : decode c_T_init 79 = .ok (.iload_n 1, 1) := by decide +kernel
theorem d_T_init_80 : decode c_T_init 80 = .ok (.bipush 64, 2) := by decide +kernel
theorem d_T_init_82 : decode c_T_init 82 = .ok (.if_icmp .le 8, 3) := by decide +kernel
theorem d_T_init_85 : decode c_T_init 85 = .ok (.bipush 64, 2) := by decide +kernel
theorem d_T_init_87 : decode c_T_init 87 = .ok (.goto 4, 3) := by decide +kernel
theorem d_T_init_90 : decode c_T_init 90 = .ok (.iload_n 1, 1) := by decide +kernel
theorem d_T_init_91 : decode c_T_init 91 = .ok (.putfield 35, 3) := by decide +kernel
theorem d_T_init_94 : decode c_T_init 94 = .ok (.iconst 0, 1) := by decide +kernel
theorem d_T_init_95 : decode c_T_init 95 = .ok (.istore_n 2, 1) := by decide +kernel
theorem d_T_init_96 : decode c_T_init 96 = .ok (.iload_n 2, 1) := by decide +kernel
theorem d_T_init_97 : decode c_T_init 97 = .ok (.bipush 64, 2) := by decide +kernel
theorem d_T_init_99 : decode c_T_init 99 = .ok (.if_icmp .ge 16, 3) := by decide +kernel
theorem d_T_init_102 : decode c_T_init 102 = .ok (.aload_n 0, 1) := by decide +kernel
theorem d_T_init_103 : decode c_T_init 103 = .ok (.getfield 7, 3) := by decide +kernel
theorem d_T_init_106 : decode c_T_init 106 = .ok (.iload_n 2, 1) := by decide +kernel
theorem d_T_init_107 : decode c_T_init 107 = .ok (.iconst (-1), 1) := by decide +kernel
theorem d_T_init_108 : decode c_T_init 108 = .ok (.iastore, 1) := by decide +kernel
theorem d_T_init_109 : decode c_T_init 109 = .ok (.iinc 2 1, 3) := by decide +kernel
theorem d_T_init_112 : decode c_T_init 112 = .ok (.goto (-16), 3) := by decide +kernel
theorem d_T_init_115 : decode c_T_init 115 = .ok (.return_, 1) := by decide +kernel
theorem d_T_thrown_0 : decode c_T_thrown 0 = .ok (.aload_n 0, 1) := by decide +kernel
theorem d_T_thrown_1 : decode c_T_thrown 1 = .ok (.getfield 39, 3) := by decide +kernel
theorem d_T_thrown_4 : decode c_T_thrown 4 = .ok (.ireturn, 1) := by decide +kernel
theorem d_T_depth_0 : decode c_T_depth 0 = .ok (.aload_n 0, 1) := by decide +kernel
theorem d_T_depth_1 : decode c_T_depth 1 = .ok (.aload_n 0, 1) := by decide +kernel
theorem d_T_depth_2 : decode c_T_depth 2 = .ok (.iload_n 1, 1) := by decide +kernel
theorem d_T_depth_3 : decode c_T_depth 3 = .ok (.i2l, 1) := by decide +kernel
theorem d_T_depth_4 : decode c_T_depth 4 = .ok (.invokevirtual 46, 3) := by decide +kernel
theorem d_T_depth_7 : decode c_T_depth 7 = .ok (.ifCond .ne 7, 3) := by decide +kernel
theorem d_T_depth_10 : decode c_T_depth 10 = .ok (.iconst 1, 1) := by decide +kernel
theorem d_T_depth_11 : decode c_T_depth 11 = .ok (.goto 22, 3) := by decide +kernel
theorem d_T_depth_14 : decode c_T_depth 14 = .ok (.iload_n 2, 1) := by decide +kernel
theorem d_T_depth_15 : decode c_T_depth 15 = .ok (.i2l, 1) := by decide +kernel
theorem d_T_depth_16 : decode c_T_depth 16 = .ok (.ldc2_w 50, 3) := by decide +kernel
theorem d_T_depth_19 : decode c_T_depth 19 = .ok (.ldc2_w 52, 3) := by decide +kernel
theorem d_T_depth_22 : decode c_T_depth 22 = .ok (.invokestatic 42, 3) := by decide +kernel
theorem d_T_depth_25 : decode c_T_depth 25 = .ok (.ifCond .ne 7, 3) := by decide +kernel
theorem d_T_depth_28 : decode c_T_depth 28 = .ok (.iconst 2, 1) := by decide +kernel
theorem d_T_depth_29 : decode c_T_depth 29 = .ok (.goto 4, 3) := by decide +kernel
theorem d_T_depth_32 : decode c_T_depth 32 = .ok (.iconst 0, 1) := by decide +kernel
theorem d_T_depth_33 : decode c_T_depth 33 = .ok (.putfield 39, 3) := by decide +kernel
theorem d_T_depth_36 : decode c_T_depth 36 = .ok (.aload_n 0, 1) := by decide +kernel
theorem d_T_depth_37 : decode c_T_depth 37 = .ok (.getfield 39, 3) := by decide +kernel
theorem d_T_depth_40 : decode c_T_depth 40 = .ok (.ifCond .ne 17, 3) := by decide +kernel
theorem d_T_depth_43 : decode c_T_depth 43 = .ok (.aload_n 0, 1) := by decide +kernel
theorem d_T_depth_44 : decode c_T_depth 44 = .ok (.getfield 7, 3) := by decide +kernel
theorem d_T_depth_47 : decode c_T_depth 47 = .ok (.iload_n 1, 1) := by decide +kernel
theorem d_T_depth_48 : decode c_T_depth 48 = .ok (.iload_n 2, 1) := by decide +kernel
theorem d_T_depth_49 : decode c_T_depth 49 = .ok (.iastore, 1) := by decide +kernel
theorem d_T_depth_50 : decode c_T_depth 50 = .ok (.aload_n 0, 1) := by decide +kernel
theorem d_T_depth_51 : decode c_T_depth 51 = .ok (.getfield 13, 3) := by decide +kernel
theorem d_T_depth_54 : decode c_T_depth 54 = .ok (.iload_n 1, 1) := by decide +kernel
theorem d_T_depth_55 : decode c_T_depth 55 = .ok (.iconst 0, 1) := by decide +kernel
theorem d_T_depth_56 : decode c_T_depth 56 = .ok (.bastore, 1) := by decide +kernel
theorem d_T_depth_57 : decode c_T_depth 57 = .ok (.return_, 1) := by decide +kernel
theorem d_T_isPlace_0 : decode c_T_isPlace 0 = .ok (.lload_n 1, 1) := by decide +kernel
theorem d_T_isPlace_1 : decode c_T_isPlace 1 = .ok (.lconst 0, 1) := by decide +kernel
theorem d_T_isPlace_2 : decode c_T_isPlace 2 = .ok (.aload_n 0, 1) := by decide +kernel
theorem d_T_isPlace_3 : decode c_T_isPlace 3 = .ok (.getfield 35, 3) := by decide +kernel
theorem d_T_isPlace_6 : decode c_T_isPlace 6 = .ok (.iconst 1, 1) := by decide +kernel
theorem d_T_isPlace_7 : decode c_T_isPlace 7 = .ok (.isub, 1) := by decide +kernel
theorem d_T_isPlace_8 : decode c_T_isPlace 8 = .ok (.i2l, 1) := by decide +kernel
theorem d_T_isPlace_9 : decode c_T_isPlace 9 = .ok (.invokestatic 42, 3) := by decide +kernel
theorem d_T_isPlace_12 : decode c_T_isPlace 12 = .ok (.ireturn, 1) := by decide +kernel
theorem d_T_isIn_0 : decode c_T_isIn 0 = .ok (.lload_n 0, 1) := by decide +kernel
theorem d_T_isIn_1 : decode c_T_isIn 1 = .ok (.lload_n 2, 1) := by decide +kernel
theorem d_T_isIn_2 : decode c_T_isIn 2 = .ok (.lcmp, 1) := by decide +kernel
theorem d_T_isIn_3 : decode c_T_isIn 3 = .ok (.ifCond .lt 14, 3) := by decide +kernel
theorem d_T_isIn_6 : decode c_T_isIn 6 = .ok (.lload_n 0, 1) := by decide +kernel
theorem d_T_isIn_7 : decode c_T_isIn 7 = .ok (.lload 4, 2) := by decide +kernel
theorem d_T_isIn_9 : decode c_T_isIn 9 = .ok (.lcmp, 1) := by decide +kernel
theorem d_T_isIn_10 : decode c_T_isIn 10 = .ok (.ifCond .gt 7, 3) := by decide +kernel
theorem d_T_isIn_13 : decode c_T_isIn 13 = .ok (.iconst 1, 1) := by decide +kernel
theorem d_T_isIn_14 : decode c_T_isIn 14 = .ok (.goto 4, 3) := by decide +kernel
theorem d_T_isIn_17 : decode c_T_isIn 17 = .ok (.iconst 0, 1) := by decide +kernel
theorem d_T_isIn_18 : decode c_T_isIn 18 = .ok (.ireturn, 1) := by decide +kernel
theorem d_T_place_0 : decode c_T_place 0 = .ok (.aload_n 0, 1) := by decide +kernel
theorem d_T_place_1 : decode c_T_place 1 = .ok (.aload_n 0, 1) := by decide +kernel
theorem d_T_place_2 : decode c_T_place 2 = .ok (.iload_n 1, 1) := by decide +kernel
theorem d_T_place_3 : decode c_T_place 3 = .ok (.i2l, 1) := by decide +kernel
theorem d_T_place_4 : decode c_T_place 4 = .ok (.invokevirtual 46, 3) := by decide +kernel
theorem d_T_place_7 : decode c_T_place 7 = .ok (.ifCond .eq 13, 3) := by decide +kernel
theorem d_T_place_10 : decode c_T_place 10 = .ok (.iload_n 2, 1) := by decide +kernel
theorem d_T_place_11 : decode c_T_place 11 = .ok (.i2l, 1) := by decide +kernel
theorem d_T_place_12 : decode c_T_place 12 = .ok (.lconst 0, 1) := by decide +kernel
theorem d_T_place_13 : decode c_T_place 13 = .ok (.lconst 1, 1) := by decide +kernel
theorem d_T_place_14 : decode c_T_place 14 = .ok (.invokestatic 42, 3) := by decide +kernel
theorem d_T_place_17 : decode c_T_place 17 = .ok (.ifCond .ne 7, 3) := by decide +kernel
theorem d_T_place_20 : decode c_T_place 20 = .ok (.iconst 1, 1) := by decide +kernel
theorem d_T_place_21 : decode c_T_place 21 = .ok (.goto 4, 3) := by decide +kernel
theorem d_T_place_24 : decode c_T_place 24 = .ok (.iconst 0, 1) := by decide +kernel
theorem d_T_place_25 : decode c_T_place 25 = .ok (.putfield 39, 3) := by decide +kernel
theorem d_T_place_28 : decode c_T_place 28 = .ok (.aload_n 0, 1) := by decide +kernel
theorem d_T_place_29 : decode c_T_place 29 = .ok (.getfield 39, 3) := by decide +kernel
theorem d_T_place_32 : decode c_T_place 32 = .ok (.ifCond .le 7, 3) := by decide +kernel
theorem d_T_place_35 : decode c_T_place 35 = .ok (.iconst 0, 1) := by decide +kernel
theorem d_T_place_36 : decode c_T_place 36 = .ok (.goto 30, 3) := by decide +kernel
theorem d_T_place_39 : decode c_T_place 39 = .ok (.iload_n 2, 1) := by decide +kernel
theorem d_T_place_40 : decode c_T_place 40 = .ok (.ifCond .ne 12, 3) := by decide +kernel
theorem d_T_place_43 : decode c_T_place 43 = .ok (.aload_n 0, 1) := by decide +kernel
theorem d_T_place_44 : decode c_T_place 44 = .ok (.getfield 7, 3) := by decide +kernel
theorem d_T_place_47 : decode c_T_place 47 = .ok (.iload_n 1, 1) := by decide +kernel
theorem d_T_place_48 : decode c_T_place 48 = .ok (.iaload, 1) := by decide +kernel
theorem d_T_place_49 : decode c_T_place 49 = .ok (.goto 17, 3) := by decide +kernel
theorem d_T_place_52 : decode c_T_place 52 = .ok (.aload_n 0, 1) := by decide +kernel
theorem d_T_place_53 : decode c_T_place 53 = .ok (.getfield 13, 3) := by decide +kernel
theorem d_T_place_56 : decode c_T_place 56 = .ok (.iload_n 1, 1) := by decide +kernel
theorem d_T_place_57 : decode c_T_place 57 = .ok (.baload, 1) := by decide +kernel
theorem d_T_place_58 : decode c_T_place 58 = .ok (.ifCond .eq 7, 3) := by decide +kernel
theorem d_T_place_61 : decode c_T_place 61 = .ok (.iconst 1, 1) := by decide +kernel
theorem d_T_place_62 : decode c_T_place 62 = .ok (.goto 4, 3) := by decide +kernel
theorem d_T_place_65 : decode c_T_place 65 = .ok (.iconst 0, 1) := by decide +kernel
theorem d_T_place_66 : decode c_T_place 66 = .ok (.ireturn, 1) := by decide +kernel
theorem d_T_mirror_0 : decode c_T_mirror 0 = .ok (.aload_n 0, 1) := by decide +kernel
theorem d_T_mirror_1 : decode c_T_mirror 1 = .ok (.invokevirtual 71, 3) := by decide +kernel
theorem d_T_mirror_4 : decode c_T_mirror 4 = .ok (.aload_n 0, 1) := by decide +kernel
theorem d_T_mirror_5 : decode c_T_mirror 5 = .ok (.aload_n 0, 1) := by decide +kernel
theorem d_T_mirror_6 : decode c_T_mirror 6 = .ok (.getfield 61, 3) := by decide +kernel
theorem d_T_mirror_9 : decode c_T_mirror 9 = .ok (.iconst (-1), 1) := by decide +kernel
theorem d_T_mirror_10 : decode c_T_mirror 10 = .ok (.if_icmp .ne 7, 3) := by decide +kernel
theorem d_T_mirror_13 : decode c_T_mirror 13 = .ok (.iconst 1, 1) := by decide +kernel
theorem d_T_mirror_14 : decode c_T_mirror 14 = .ok (.goto 20, 3) := by decide +kernel
theorem d_T_mirror_17 : decode c_T_mirror 17 = .ok (.iload_n 1, 1) := by decide +kernel
theorem d_T_mirror_18 : decode c_T_mirror 18 = .ok (.i2l, 1) := by decide +kernel
theorem d_T_mirror_19 : decode c_T_mirror 19 = .ok (.lconst 0, 1) := by decide +kernel
theorem d_T_mirror_20 : decode c_T_mirror 20 = .ok (.ldc2_w 74, 3) := by decide +kernel
theorem d_T_mirror_23 : decode c_T_mirror 23 = .ok (.invokestatic 42, 3) := by decide +kernel
theorem d_T_mirror_26 : decode c_T_mirror 26 = .ok (.ifCond .ne 7, 3) := by decide +kernel
theorem d_T_mirror_29 : decode c_T_mirror 29 = .ok (.iconst 2, 1) := by decide +kernel
theorem d_T_mirror_30 : decode c_T_mirror 30 = .ok (.goto 4, 3) := by decide +kernel
theorem d_T_mirror_33 : decode c_T_mirror 33 = .ok (.iconst 0, 1) := by decide +kernel
theorem d_T_mirror_34 : decode c_T_mirror 34 = .ok (.putfield 39, 3) := by decide +kernel
theorem d_T_mirror_37 : decode c_T_mirror 37 = .ok (.aload_n 0, 1) := by decide +kernel
theorem d_T_mirror_38 : decode c_T_mirror 38 = .ok (.getfield 39, 3) := by decide +kernel
theorem d_T_mirror_41 : decode c_T_mirror 41 = .ok (.ifCond .le 7, 3) := by decide +kernel
theorem d_T_mirror_44 : decode c_T_mirror 44 = .ok (.lconst 0, 1) := by decide +kernel
theorem d_T_mirror_45 : decode c_T_mirror 45 = .ok (.goto 32, 3) := by decide +kernel
theorem d_T_mirror_48 : decode c_T_mirror 48 = .ok (.iload_n 1, 1) := by decide +kernel
theorem d_T_mirror_49 : decode c_T_mirror 49 = .ok (.ifCond .ne 11, 3) := by decide +kernel
theorem d_T_mirror_52 : decode c_T_mirror 52 = .ok (.aload_n 0, 1) := by decide +kernel
theorem d_T_mirror_53 : decode c_T_mirror 53 = .ok (.getfield 61, 3) := by decide +kernel
theorem d_T_mirror_56 : decode c_T_mirror 56 = .ok (.i2l, 1) := by decide +kernel
theorem d_T_mirror_57 : decode c_T_mirror 57 = .ok (.goto 20, 3) := by decide +kernel
theorem d_T_mirror_60 : decode c_T_mirror 60 = .ok (.iload_n 1, 1) := by decide +kernel
theorem d_T_mirror_61 : decode c_T_mirror 61 = .ok (.iconst 1, 1) := by decide +kernel
theorem d_T_mirror_62 : decode c_T_mirror 62 = .ok (.if_icmp .ne 10, 3) := by decide +kernel
theorem d_T_mirror_65 : decode c_T_mirror 65 = .ok (.aload_n 0, 1) := by decide +kernel
theorem d_T_mirror_66 : decode c_T_mirror 66 = .ok (.getfield 57, 3) := by decide +kernel
theorem d_T_mirror_69 : decode c_T_mirror 69 = .ok (.goto 8, 3) := by decide +kernel
theorem d_T_mirror_72 : decode c_T_mirror 72 = .ok (.aload_n 0, 1) := by decide +kernel
theorem d_T_mirror_73 : decode c_T_mirror 73 = .ok (.getfield 54, 3) := by decide +kernel
theorem d_T_mirror_76 : decode c_T_mirror 76 = .ok (.i2l, 1) := by decide +kernel
theorem d_T_mirror_77 : decode c_T_mirror 77 = .ok (.lreturn, 1) := by decide +kernel
theorem d_T_findMirror_0 : decode c_T_findMirror 0 = .ok (.aload_n 0, 1) := by decide +kernel
theorem d_T_findMirror_1 : decode c_T_findMirror 1 = .ok (.iconst (-1), 1) := by decide +kernel
theorem d_T_findMirror_2 : decode c_T_findMirror 2 = .ok (.putfield 61, 3) := by decide +kernel
theorem d_T_findMirror_5 : decode c_T_findMirror 5 = .ok (.iconst 0, 1) := by decide +kernel
theorem d_T_findMirror_6 : decode c_T_findMirror 6 = .ok (.istore_n 1, 1) := by decide +kernel
theorem d_T_findMirror_7 : decode c_T_findMirror 7 = .ok (.iload_n 1, 1) := by decide +kernel
theorem d_T_findMirror_8 : decode c_T_findMirror 8 = .ok (.iconst 2, 1) := by decide +kernel
theorem d_T_findMirror_9 : decode c_T_findMirror 9 = .ok (.aload_n 0, 1) := by decide +kernel
theorem d_T_findMirror_10 : decode c_T_findMirror 10 = .ok (.getfield 35, 3) := by decide +kernel
theorem d_T_findMirror_13 : decode c_T_findMirror 13 = .ok (.imul, 1) := by decide +kernel
theorem d_T_findMirror_14 : decode c_T_findMirror 14 = .ok (.iconst 2, 1) := by decide +kernel
theorem d_T_findMirror_15 : decode c_T_findMirror 15 = .ok (.isub, 1) := by decide +kernel
theorem d_T_findMirror_16 : decode c_T_findMirror 16 = .ok (.if_icmp .gt 127, 3) := by decide +kernel
theorem d_T_findMirror_19 : decode c_T_findMirror 19 = .ok (.lconst 0, 1) := by decide +kernel
theorem d_T_findMirror_20 : decode c_T_findMirror 20 = .ok (.lstore_n 2, 1) := by decide +kernel
theorem d_T_findMirror_21 : decode c_T_findMirror 21 = .ok (.iconst 0, 1) := by decide +kernel
theorem d_T_findMirror_22 : decode c_T_findMirror 22 = .ok (.istore 4, 2) := by decide +kernel
theorem d_T_findMirror_24 : decode c_T_findMirror 24 = .ok (.iconst 0, 1) := by decide +kernel
theorem d_T_findMirror_25 : decode c_T_findMirror 25 = .ok (.istore 5, 2) := by decide +kernel
theorem d_T_findMirror_27 : decode c_T_findMirror 27 = .ok (.iload 5, 2) := by decide +kernel
theorem d_T_findMirror_29 : decode c_T_findMirror 29 = .ok (.iload_n 1, 1) := by decide +kernel
theorem d_T_findMirror_30 : decode c_T_findMirror 30 = .ok (.iload 5, 2) := by decide +kernel
theorem d_T_findMirror_32 : decode c_T_findMirror 32 = .ok (.isub, 1) := by decide +kernel
theorem d_T_findMirror_33 : decode c_T_findMirror 33 = .ok (.if_icmp .ge 62, 3) := by decide +kernel
theorem d_T_findMirror_36 : decode c_T_findMirror 36 = .ok (.aload_n 0, 1) := by decide +kernel
theorem d_T_findMirror_37 : decode c_T_findMirror 37 = .ok (.iload 5, 2) := by decide +kernel
theorem d_T_findMirror_39 : decode c_T_findMirror 39 = .ok (.i2l, 1) := by decide +kernel
theorem d_T_findMirror_40 : decode c_T_findMirror 40 = .ok (.invokevirtual 64, 3) := by decide +kernel
theorem d_T_findMirror_43 : decode c_T_findMirror 43 = .ok (.ifCond .eq 46, 3) := by decide +kernel
theorem d_T_findMirror_46 : decode c_T_findMirror 46 = .ok (.aload_n 0, 1) := by decide +kernel
theorem d_T_findMirror_47 : decode c_T_findMirror 47 = .ok (.iload_n 1, 1) := by decide +kernel
theorem d_T_findMirror_48 : decode c_T_findMirror 48 = .ok (.iload 5, 2) := by decide +kernel
theorem d_T_findMirror_50 : decode c_T_findMirror 50 = .ok (.isub, 1) := by decide +kernel
theorem d_T_findMirror_51 : decode c_T_findMirror 51 = .ok (.i2l, 1) := by decide +kernel
theorem d_T_findMirror_52 : decode c_T_findMirror 52 = .ok (.invokevirtual 64, 3) := by decide +kernel
theorem d_T_findMirror_55 : decode c_T_findMirror 55 = .ok (.ifCond .eq 34, 3) := by decide +kernel
theorem d_T_findMirror_58 : decode c_T_findMirror 58 = .ok (.aload_n 0, 1) := by decide +kernel
theorem d_T_findMirror_59 : decode c_T_findMirror 59 = .ok (.getfield 7, 3) := by decide +kernel
theorem d_T_findMirror_62 : decode c_T_findMirror 62 = .ok (.iload 5, 2) := by decide +kernel
theorem d_T_findMirror_64 : decode c_T_findMirror 64 = .ok (.iaload, 1) := by decide +kernel
theorem d_T_findMirror_65 : decode c_T_findMirror 65 = .ok (.aload_n 0, 1) := by decide +kernel
theorem d_T_findMirror_66 : decode c_T_findMirror 66 = .ok (.getfield 7, 3) := by decide +kernel
theorem d_T_findMirror_69 : decode c_T_findMirror 69 = .ok (.iload_n 1, 1) := by decide +kernel
theorem d_T_findMirror_70 : decode c_T_findMirror 70 = .ok (.iload 5, 2) := by decide +kernel
theorem d_T_findMirror_72 : decode c_T_findMirror 72 = .ok (.isub, 1) := by decide +kernel
theorem d_T_findMirror_73 : decode c_T_findMirror 73 = .ok (.iaload, 1) := by decide +kernel
theorem d_T_findMirror_74 : decode c_T_findMirror 74 = .ok (.isub, 1) := by decide +kernel
theorem d_T_findMirror_75 : decode c_T_findMirror 75 = .ok (.istore 6, 2) := by decide +kernel
theorem d_T_findMirror_77 : decode c_T_findMirror 77 = .ok (.lload_n 2, 1) := by decide +kernel
theorem d_T_findMirror_78 : decode c_T_findMirror 78 = .ok (.iload 6, 2) := by decide +kernel
theorem d_T_findMirror_80 : decode c_T_findMirror 80 = .ok (.iload 6, 2) := by decide +kernel
theorem d_T_findMirror_82 : decode c_T_findMirror 82 = .ok (.imul, 1) := by decide +kernel
theorem d_T_findMirror_83 : decode c_T_findMirror 83 = .ok (.i2l, 1) := by decide +kernel
theorem d_T_findMirror_84 : decode c_T_findMirror 84 = .ok (.ladd, 1) := by decide +kernel
theorem d_T_findMirror_85 : decode c_T_findMirror 85 = .ok (.lstore_n 2, 1) := by decide +kernel
theorem d_T_findMirror_86 : decode c_T_findMirror 86 = .ok (.iinc 4 1, 3) := by decide +kernel
theorem d_T_findMirror_89 : decode c_T_findMirror 89 = .ok (.iinc 5 1, 3) := by decide +kernel
theorem d_T_findMirror_92 : decode c_T_findMirror 92 = .ok (.goto (-65), 3) := by decide +kernel
theorem d_T_findMirror_95 : decode c_T_findMirror 95 = .ok (.iload 4, 2) := by decide +kernel
theorem d_T_findMirror_97 : decode c_T_findMirror 97 = .ok (.ifCond .le 40, 3) := by decide +kernel
theorem d_T_findMirror_100 : decode c_T_findMirror 100 = .ok (.iload 4, 2) := by decide +kernel
theorem d_T_findMirror_102 : decode c_T_findMirror 102 = .ok (.aload_n 0, 1) := by decide +kernel
theorem d_T_findMirror_103 : decode c_T_findMirror 103 = .ok (.getfield 35, 3) := by decide +kernel
theorem d_T_findMirror_106 : decode c_T_findMirror 106 = .ok (.iconst 4, 1) := by decide +kernel
theorem d_T_findMirror_107 : decode c_T_findMirror 107 = .ok (.idiv, 1) := by decide +kernel
theorem d_T_findMirror_108 : decode c_T_findMirror 108 = .ok (.if_icmp .lt 29, 3) := by decide +kernel
theorem d_T_findMirror_111 : decode c_T_findMirror 111 = .ok (.aload_n 0, 1) := by decide +kernel
theorem d_T_findMirror_112 : decode c_T_findMirror 112 = .ok (.lload_n 2, 1) := by decide +kernel
theorem d_T_findMirror_113 : decode c_T_findMirror 113 = .ok (.iload 4, 2) := by decide +kernel
theorem d_T_findMirror_115 : decode c_T_findMirror 115 = .ok (.invokevirtual 67, 3) := by decide +kernel
theorem d_T_findMirror_118 : decode c_T_findMirror 118 = .ok (.ifCond .eq 19, 3) := by decide +kernel
theorem d_T_findMirror_121 : decode c_T_findMirror 121 = .ok (.aload_n 0, 1) := by decide +kernel
theorem d_T_findMirror_122 : decode c_T_findMirror 122 = .ok (.iload_n 1, 1) := by decide +kernel
theorem d_T_findMirror_123 : decode c_T_findMirror 123 = .ok (.putfield 61, 3) := by decide +kernel
theorem d_T_findMirror_126 : decode c_T_findMirror 126 = .ok (.aload_n 0, 1) := by decide +kernel
theorem d_T_findMirror_127 : decode c_T_findMirror 127 = .ok (.lload_n 2, 1) := by decide +kernel
theorem d_T_findMirror_128 : decode c_T_findMirror 128 = .ok (.putfield 57, 3) := by decide +kernel
theorem d_T_findMirror_131 : decode c_T_findMirror 131 = .ok (.aload_n 0, 1) := by decide +kernel
theorem d_T_findMirror_132 : decode c_T_findMirror 132 = .ok (.iload 4, 2) := by decide +kernel
theorem d_T_findMirror_134 : decode c_T_findMirror 134 = .ok (.putfield 54, 3) := by decide +kernel
theorem d_T_findMirror_137 : decode c_T_findMirror 137 = .ok (.iinc 1 1, 3) := by decide +kernel
theorem d_T_findMirror_140 : decode c_T_findMirror 140 = .ok (.goto (-133), 3) := by decide +kernel
theorem d_T_findMirror_143 : decode c_T_findMirror 143 = .ok (.return_, 1) := by decide +kernel
theorem d_T_isKnown_0 : decode c_T_isKnown 0 = .ok (.aload_n 0, 1) := by decide +kernel
theorem d_T_isKnown_1 : decode c_T_isKnown 1 = .ok (.lload_n 1, 1) := by decide +kernel
theorem d_T_isKnown_2 : decode c_T_isKnown 2 = .ok (.invokevirtual 46, 3) := by decide +kernel
theorem d_T_isKnown_5 : decode c_T_isKnown 5 = .ok (.ifCond .eq 27, 3) := by decide +kernel
theorem d_T_isKnown_8 : decode c_T_isKnown 8 = .ok (.aload_n 0, 1) := by decide +kernel
theorem d_T_isKnown_9 : decode c_T_isKnown 9 = .ok (.getfield 7, 3) := by decide +kernel
theorem d_T_isKnown_12 : decode c_T_isKnown 12 = .ok (.lload_n 1, 1) := by decide +kernel
theorem d_T_isKnown_13 : decode c_T_isKnown 13 = .ok (.l2i, 1) := by decide +kernel
theorem d_T_isKnown_14 : decode c_T_isKnown 14 = .ok (.iaload, 1) := by decide +kernel
theorem d_T_isKnown_15 : decode c_T_isKnown 15 = .ok (.ifCond .lt 17, 3) := by decide +kernel
theorem d_T_isKnown_18 : decode c_T_isKnown 18 = .ok (.aload_n 0, 1) := by decide +kernel
theorem d_T_isKnown_19 : decode c_T_isKnown 19 = .ok (.getfield 13, 3) := by decide +kernel
theorem d_T_isKnown_22 : decode c_T_isKnown 22 = .ok (.lload_n 1, 1) := by decide +kernel
theorem d_T_isKnown_23 : decode c_T_isKnown 23 = .ok (.l2i, 1) := by decide +kernel
theorem d_T_isKnown_24 : decode c_T_isKnown 24 = .ok (.baload, 1) := by decide +kernel
theorem d_T_isKnown_25 : decode c_T_isKnown 25 = .ok (.ifCond .ne 7, 3) := by decide +kernel
theorem d_T_isKnown_28 : decode c_T_isKnown 28 = .ok (.iconst 1, 1) := by decide +kernel
theorem d_T_isKnown_29 : decode c_T_isKnown 29 = .ok (.goto 4, 3) := by decide +kernel
theorem d_T_isKnown_32 : decode c_T_isKnown 32 = .ok (.iconst 0, 1) := by decide +kernel
theorem d_T_isKnown_33 : decode c_T_isKnown 33 = .ok (.ireturn, 1) := by decide +kernel
theorem d_T_isBetter_0 : decode c_T_isBetter 0 = .ok (.lload_n 1, 1) := by decide +kernel
theorem d_T_isBetter_1 : decode c_T_isBetter 1 = .ok (.aload_n 0, 1) := by decide +kernel
theorem d_T_isBetter_2 : decode c_T_isBetter 2 = .ok (.getfield 54, 3) := by decide +kernel
theorem d_T_isBetter_5 : decode c_T_isBetter 5 = .ok (.i2l, 1) := by decide +kernel
theorem d_T_isBetter_6 : decode c_T_isBetter 6 = .ok (.lmul, 1) := by decide +kernel
theorem d_T_isBetter_7 : decode c_T_isBetter 7 = .ok (.lstore 4, 2) := by decide +kernel
theorem d_T_isBetter_9 : decode c_T_isBetter 9 = .ok (.aload_n 0, 1) := by decide +kernel
theorem d_T_isBetter_10 : decode c_T_isBetter 10 = .ok (.getfield 57, 3) := by decide +kernel
theorem d_T_isBetter_13 : decode c_T_isBetter 13 = .ok (.iload_n 3, 1) := by decide +kernel
theorem d_T_isBetter_14 : decode c_T_isBetter 14 = .ok (.i2l, 1) := by decide +kernel
theorem d_T_isBetter_15 : decode c_T_isBetter 15 = .ok (.lmul, 1) := by decide +kernel
theorem d_T_isBetter_16 : decode c_T_isBetter 16 = .ok (.lstore 6, 2) := by decide +kernel
theorem d_T_isBetter_18 : decode c_T_isBetter 18 = .ok (.aload_n 0, 1) := by decide +kernel
theorem d_T_isBetter_19 : decode c_T_isBetter 19 = .ok (.getfield 61, 3) := by decide +kernel
theorem d_T_isBetter_22 : decode c_T_isBetter 22 = .ok (.iconst (-1), 1) := by decide +kernel
theorem d_T_isBetter_23 : decode c_T_isBetter 23 = .ok (.if_icmp .eq 27, 3) := by decide +kernel
theorem d_T_isBetter_26 : decode c_T_isBetter 26 = .ok (.lload 4, 2) := by decide +kernel
theorem d_T_isBetter_28 : decode c_T_isBetter 28 = .ok (.lload 6, 2) := by decide +kernel
theorem d_T_isBetter_30 : decode c_T_isBetter 30 = .ok (.lcmp, 1) := by decide +kernel
theorem d_T_isBetter_31 : decode c_T_isBetter 31 = .ok (.ifCond .lt 19, 3) := by decide +kernel
theorem d_T_isBetter_34 : decode c_T_isBetter 34 = .ok (.lload 4, 2) := by decide +kernel
theorem d_T_isBetter_36 : decode c_T_isBetter 36 = .ok (.lload 6, 2) := by decide +kernel
theorem d_T_isBetter_38 : decode c_T_isBetter 38 = .ok (.lcmp, 1) := by decide +kernel
theorem d_T_isBetter_39 : decode c_T_isBetter 39 = .ok (.ifCond .ne 15, 3) := by decide +kernel
theorem d_T_isBetter_42 : decode c_T_isBetter 42 = .ok (.iload_n 3, 1) := by decide +kernel
theorem d_T_isBetter_43 : decode c_T_isBetter 43 = .ok (.aload_n 0, 1) := by decide +kernel
theorem d_T_isBetter_44 : decode c_T_isBetter 44 = .ok (.getfield 54, 3) := by decide +kernel
theorem d_T_isBetter_47 : decode c_T_isBetter 47 = .ok (.if_icmp .le 7, 3) := by decide +kernel
theorem d_T_isBetter_50 : decode c_T_isBetter 50 = .ok (.iconst 1, 1) := by decide +kernel
theorem d_T_isBetter_51 : decode c_T_isBetter 51 = .ok (.goto 4, 3) := by decide +kernel
theorem d_T_isBetter_54 : decode c_T_isBetter 54 = .ok (.iconst 0, 1) := by decide +kernel
theorem d_T_isBetter_55 : decode c_T_isBetter 55 = .ok (.ireturn, 1) := by decide +kernel
theorem d_T_sum_0 : decode c_T_sum 0 = .ok (.aload_n 0, 1) := by decide +kernel
theorem d_T_sum_1 : decode c_T_sum 1 = .ok (.iload_n 1, 1) := by decide +kernel
theorem d_T_sum_2 : decode c_T_sum 2 = .ok (.i2l, 1) := by decide +kernel
theorem d_T_sum_3 : decode c_T_sum 3 = .ok (.lconst 1, 1) := by decide +kernel
theorem d_T_sum_4 : decode c_T_sum 4 = .ok (.aload_n 0, 1) := by decide +kernel
theorem d_T_sum_5 : decode c_T_sum 5 = .ok (.getfield 35, 3) := by decide +kernel
theorem d_T_sum_8 : decode c_T_sum 8 = .ok (.iconst 1, 1) := by decide +kernel
theorem d_T_sum_9 : decode c_T_sum 9 = .ok (.isub, 1) := by decide +kernel
theorem d_T_sum_10 : decode c_T_sum 10 = .ok (.i2l, 1) := by decide +kernel
theorem d_T_sum_11 : decode c_T_sum 11 = .ok (.invokestatic 42, 3) := by decide +kernel
theorem d_T_sum_14 : decode c_T_sum 14 = .ok (.ifCond .ne 7, 3) := by decide +kernel
theorem d_T_sum_17 : decode c_T_sum 17 = .ok (.iconst 1, 1) := by decide +kernel
theorem d_T_sum_18 : decode c_T_sum 18 = .ok (.goto 4, 3) := by decide +kernel
theorem d_T_sum_21 : decode c_T_sum 21 = .ok (.iconst 0, 1) := by decide +kernel
theorem d_T_sum_22 : decode c_T_sum 22 = .ok (.putfield 39, 3) := by decide +kernel
theorem d_T_sum_25 : decode c_T_sum 25 = .ok (.aload_n 0, 1) := by decide +kernel
theorem d_T_sum_26 : decode c_T_sum 26 = .ok (.getfield 39, 3) := by decide +kernel
theorem d_T_sum_29 : decode c_T_sum 29 = .ok (.ifCond .le 7, 3) := by decide +kernel
theorem d_T_sum_32 : decode c_T_sum 32 = .ok (.lconst 0, 1) := by decide +kernel
theorem d_T_sum_33 : decode c_T_sum 33 = .ok (.goto 8, 3) := by decide +kernel
theorem d_T_sum_36 : decode c_T_sum 36 = .ok (.aload_n 0, 1) := by decide +kernel
theorem d_T_sum_37 : decode c_T_sum 37 = .ok (.iload_n 1, 1) := by decide +kernel
theorem d_T_sum_38 : decode c_T_sum 38 = .ok (.invokevirtual 76, 3) := by decide +kernel
theorem d_T_sum_41 : decode c_T_sum 41 = .ok (.lreturn, 1) := by decide +kernel
theorem d_T_sumOf_0 : decode c_T_sumOf 0 = .ok (.lconst 0, 1) := by decide +kernel
theorem d_T_sumOf_1 : decode c_T_sumOf 1 = .ok (.lstore_n 2, 1) := by decide +kernel
theorem d_T_sumOf_2 : decode c_T_sumOf 2 = .ok (.iconst 0, 1) := by decide +kernel
theorem d_T_sumOf_3 : decode c_T_sumOf 3 = .ok (.istore 4, 2) := by decide +kernel
theorem d_T_sumOf_5 : decode c_T_sumOf 5 = .ok (.iload 4, 2) := by decide +kernel
theorem d_T_sumOf_7 : decode c_T_sumOf 7 = .ok (.iload_n 1, 1) := by decide +kernel
theorem d_T_sumOf_8 : decode c_T_sumOf 8 = .ok (.iadd, 1) := by decide +kernel
theorem d_T_sumOf_9 : decode c_T_sumOf 9 = .ok (.aload_n 0, 1) := by decide +kernel
theorem d_T_sumOf_10 : decode c_T_sumOf 10 = .ok (.getfield 35, 3) := by decide +kernel
theorem d_T_sumOf_13 : decode c_T_sumOf 13 = .ok (.if_icmp .ge 64, 3) := by decide +kernel
theorem d_T_sumOf_16 : decode c_T_sumOf 16 = .ok (.aload_n 0, 1) := by decide +kernel
theorem d_T_sumOf_17 : decode c_T_sumOf 17 = .ok (.iload 4, 2) := by decide +kernel
theorem d_T_sumOf_19 : decode c_T_sumOf 19 = .ok (.i2l, 1) := by decide +kernel
theorem d_T_sumOf_20 : decode c_T_sumOf 20 = .ok (.invokevirtual 64, 3) := by decide +kernel
theorem d_T_sumOf_23 : decode c_T_sumOf 23 = .ok (.ifCond .eq 46, 3) := by decide +kernel
theorem d_T_sumOf_26 : decode c_T_sumOf 26 = .ok (.aload_n 0, 1) := by decide +kernel
theorem d_T_sumOf_27 : decode c_T_sumOf 27 = .ok (.iload 4, 2) := by decide +kernel
theorem d_T_sumOf_29 : decode c_T_sumOf 29 = .ok (.iload_n 1, 1) := by decide +kernel
theorem d_T_sumOf_30 : decode c_T_sumOf 30 = .ok (.iadd, 1) := by decide +kernel
theorem d_T_sumOf_31 : decode c_T_sumOf 31 = .ok (.i2l, 1) := by decide +kernel
theorem d_T_sumOf_32 : decode c_T_sumOf 32 = .ok (.invokevirtual 64, 3) := by decide +kernel
theorem d_T_sumOf_35 : decode c_T_sumOf 35 = .ok (.ifCond .eq 34, 3) := by decide +kernel
theorem d_T_sumOf_38 : decode c_T_sumOf 38 = .ok (.lload_n 2, 1) := by decide +kernel
theorem d_T_sumOf_39 : decode c_T_sumOf 39 = .ok (.aload_n 0, 1) := by decide +kernel
theorem d_T_sumOf_40 : decode c_T_sumOf 40 = .ok (.getfield 7, 3) := by decide +kernel
theorem d_T_sumOf_43 : decode c_T_sumOf 43 = .ok (.iload 4, 2) := by decide +kernel
theorem d_T_sumOf_45 : decode c_T_sumOf 45 = .ok (.iaload, 1) := by decide +kernel
theorem d_T_sumOf_46 : decode c_T_sumOf 46 = .ok (.sipush 128, 3) := by decide +kernel
theorem d_T_sumOf_49 : decode c_T_sumOf 49 = .ok (.isub, 1) := by decide +kernel
theorem d_T_sumOf_50 : decode c_T_sumOf 50 = .ok (.aload_n 0, 1) := by decide +kernel
theorem d_T_sumOf_51 : decode c_T_sumOf 51 = .ok (.getfield 7, 3) := by decide +kernel
theorem d_T_sumOf_54 : decode c_T_sumOf 54 = .ok (.iload 4, 2) := by decide +kernel
theorem d_T_sumOf_56 : decode c_T_sumOf 56 = .ok (.iload_n 1, 1) := by decide +kernel
theorem d_T_sumOf_57 : decode c_T_sumOf 57 = .ok (.iadd, 1) := by decide +kernel
theorem d_T_sumOf_58 : decode c_T_sumOf 58 = .ok (.iaload, 1) := by decide +kernel
theorem d_T_sumOf_59 : decode c_T_sumOf 59 = .ok (.sipush 128, 3) := by decide +kernel
theorem d_T_sumOf_62 : decode c_T_sumOf 62 = .ok (.isub, 1) := by decide +kernel
theorem d_T_sumOf_63 : decode c_T_sumOf 63 = .ok (.imul, 1) := by decide +kernel
theorem d_T_sumOf_64 : decode c_T_sumOf 64 = .ok (.i2l, 1) := by decide +kernel
theorem d_T_sumOf_65 : decode c_T_sumOf 65 = .ok (.ladd, 1) := by decide +kernel
theorem d_T_sumOf_66 : decode c_T_sumOf 66 = .ok (.goto 4, 3) := by decide +kernel
theorem d_T_sumOf_69 : decode c_T_sumOf 69 = .ok (.lload_n 2, 1) := by decide +kernel
theorem d_T_sumOf_70 : decode c_T_sumOf 70 = .ok (.lstore_n 2, 1) := by decide +kernel
theorem d_T_sumOf_71 : decode c_T_sumOf 71 = .ok (.iinc 4 1, 3) := by decide +kernel
theorem d_T_sumOf_74 : decode c_T_sumOf 74 = .ok (.goto (-69), 3) := by decide +kernel
theorem d_T_sumOf_77 : decode c_T_sumOf 77 = .ok (.lload_n 2, 1) := by decide +kernel
theorem d_T_sumOf_78 : decode c_T_sumOf 78 = .ok (.lreturn, 1) := by decide +kernel
theorem d_T_repeat__0 : decode c_T_repeat_ 0 = .ok (.aload_n 0, 1) := by decide +kernel
theorem d_T_repeat__1 : decode c_T_repeat_ 1 = .ok (.iload_n 1, 1) := by decide +kernel
theorem d_T_repeat__2 : decode c_T_repeat_ 2 = .ok (.i2l, 1) := by decide +kernel
theorem d_T_repeat__3 : decode c_T_repeat_ 3 = .ok (.lconst 1, 1) := by decide +kernel
theorem d_T_repeat__4 : decode c_T_repeat_ 4 = .ok (.aload_n 0, 1) := by decide +kernel
theorem d_T_repeat__5 : decode c_T_repeat_ 5 = .ok (.getfield 35, 3) := by decide +kernel
theorem d_T_repeat__8 : decode c_T_repeat_ 8 = .ok (.iconst 1, 1) := by decide +kernel
theorem d_T_repeat__9 : decode c_T_repeat_ 9 = .ok (.isub, 1) := by decide +kernel
theorem d_T_repeat__10 : decode c_T_repeat_ 10 = .ok (.i2l, 1) := by decide +kernel
theorem d_T_repeat__11 : decode c_T_repeat_ 11 = .ok (.invokestatic 42, 3) := by decide +kernel
theorem d_T_repeat__14 : decode c_T_repeat_ 14 = .ok (.ifCond .eq 20, 3) := by decide +kernel
theorem d_T_repeat__17 : decode c_T_repeat_ 17 = .ok (.iload_n 2, 1) := by decide +kernel
theorem d_T_repeat__18 : decode c_T_repeat_ 18 = .ok (.i2l, 1) := by decide +kernel
theorem d_T_repeat__19 : decode c_T_repeat_ 19 = .ok (.iload_n 1, 1) := by decide +kernel
theorem d_T_repeat__20 : decode c_T_repeat_ 20 = .ok (.i2l, 1) := by decide +kernel
theorem d_T_repeat__21 : decode c_T_repeat_ 21 = .ok (.aload_n 0, 1) := by decide +kernel
theorem d_T_repeat__22 : decode c_T_repeat_ 22 = .ok (.getfield 35, 3) := by decide +kernel
theorem d_T_repeat__25 : decode c_T_repeat_ 25 = .ok (.iconst 1, 1) := by decide +kernel
theorem d_T_repeat__26 : decode c_T_repeat_ 26 = .ok (.isub, 1) := by decide +kernel
theorem d_T_repeat__27 : decode c_T_repeat_ 27 = .ok (.i2l, 1) := by decide +kernel
theorem d_T_repeat__28 : decode c_T_repeat_ 28 = .ok (.invokestatic 42, 3) := by decide +kernel
theorem d_T_repeat__31 : decode c_T_repeat_ 31 = .ok (.ifCond .ne 7, 3) := by decide +kernel
theorem d_T_repeat__34 : decode c_T_repeat_ 34 = .ok (.iconst 1, 1) := by decide +kernel
theorem d_T_repeat__35 : decode c_T_repeat_ 35 = .ok (.goto 4, 3) := by decide +kernel
theorem d_T_repeat__38 : decode c_T_repeat_ 38 = .ok (.iconst 0, 1) := by decide +kernel
theorem d_T_repeat__39 : decode c_T_repeat_ 39 = .ok (.putfield 39, 3) := by decide +kernel
theorem d_T_repeat__42 : decode c_T_repeat_ 42 = .ok (.aload_n 0, 1) := by decide +kernel
theorem d_T_repeat__43 : decode c_T_repeat_ 43 = .ok (.getfield 39, 3) := by decide +kernel
theorem d_T_repeat__46 : decode c_T_repeat_ 46 = .ok (.ifCond .le 5, 3) := by decide +kernel
theorem d_T_repeat__49 : decode c_T_repeat_ 49 = .ok (.iconst 0, 1) := by decide +kernel
theorem d_T_repeat__50 : decode c_T_repeat_ 50 = .ok (.ireturn, 1) := by decide +kernel
theorem d_T_repeat__51 : decode c_T_repeat_ 51 = .ok (.iload_n 1, 1) := by decide +kernel
theorem d_T_repeat__52 : decode c_T_repeat_ 52 = .ok (.istore_n 3, 1) := by decide +kernel
theorem d_T_repeat__53 : decode c_T_repeat_ 53 = .ok (.iload_n 1, 1) := by decide +kernel
theorem d_T_repeat__54 : decode c_T_repeat_ 54 = .ok (.iconst 1, 1) := by decide +kernel
theorem d_T_repeat__55 : decode c_T_repeat_ 55 = .ok (.iadd, 1) := by decide +kernel
theorem d_T_repeat__56 : decode c_T_repeat_ 56 = .ok (.istore 4, 2) := by decide +kernel
theorem d_T_repeat__58 : decode c_T_repeat_ 58 = .ok (.iload 4, 2) := by decide +kernel
theorem d_T_repeat__60 : decode c_T_repeat_ 60 = .ok (.iload_n 2, 1) := by decide +kernel
theorem d_T_repeat__61 : decode c_T_repeat_ 61 = .ok (.if_icmp .gt 31, 3) := by decide +kernel
theorem d_T_repeat__64 : decode c_T_repeat_ 64 = .ok (.aload_n 0, 1) := by decide +kernel
theorem d_T_repeat__65 : decode c_T_repeat_ 65 = .ok (.iload 4, 2) := by decide +kernel
theorem d_T_repeat__67 : decode c_T_repeat_ 67 = .ok (.invokevirtual 76, 3) := by decide +kernel
theorem d_T_repeat__70 : decode c_T_repeat_ 70 = .ok (.aload_n 0, 1) := by decide +kernel
theorem d_T_repeat__71 : decode c_T_repeat_ 71 = .ok (.iload_n 3, 1) := by decide +kernel
theorem d_T_repeat__72 : decode c_T_repeat_ 72 = .ok (.invokevirtual 76, 3) := by decide +kernel
theorem d_T_repeat__75 : decode c_T_repeat_ 75 = .ok (.lcmp, 1) := by decide +kernel
theorem d_T_repeat__76 : decode c_T_repeat_ 76 = .ok (.ifCond .le 8, 3) := by decide +kernel
theorem d_T_repeat__79 : decode c_T_repeat_ 79 = .ok (.iload 4, 2) := by decide +kernel
theorem d_T_repeat__81 : decode c_T_repeat_ 81 = .ok (.goto 4, 3) := by decide +kernel
theorem d_T_repeat__84 : decode c_T_repeat_ 84 = .ok (.iload_n 3, 1) := by decide +kernel
theorem d_T_repeat__85 : decode c_T_repeat_ 85 = .ok (.istore_n 3, 1) := by decide +kernel
theorem d_T_repeat__86 : decode c_T_repeat_ 86 = .ok (.iinc 4 1, 3) := by decide +kernel
theorem d_T_repeat__89 : decode c_T_repeat_ 89 = .ok (.goto (-31), 3) := by decide +kernel
theorem d_T_repeat__92 : decode c_T_repeat_ 92 = .ok (.iload_n 3, 1) := by decide +kernel
theorem d_T_repeat__93 : decode c_T_repeat_ 93 = .ok (.ireturn, 1) := by decide +kernel
theorem d_T_fill_0 : decode c_T_fill 0 = .ok (.aload_n 0, 1) := by decide +kernel
theorem d_T_fill_1 : decode c_T_fill 1 = .ok (.iload_n 1, 1) := by decide +kernel
theorem d_T_fill_2 : decode c_T_fill 2 = .ok (.i2l, 1) := by decide +kernel
theorem d_T_fill_3 : decode c_T_fill 3 = .ok (.lconst 0, 1) := by decide +kernel
theorem d_T_fill_4 : decode c_T_fill 4 = .ok (.aload_n 0, 1) := by decide +kernel
theorem d_T_fill_5 : decode c_T_fill 5 = .ok (.getfield 35, 3) := by decide +kernel
theorem d_T_fill_8 : decode c_T_fill 8 = .ok (.iconst 1, 1) := by decide +kernel
theorem d_T_fill_9 : decode c_T_fill 9 = .ok (.isub, 1) := by decide +kernel
theorem d_T_fill_10 : decode c_T_fill 10 = .ok (.i2l, 1) := by decide +kernel
theorem d_T_fill_11 : decode c_T_fill 11 = .ok (.invokestatic 42, 3) := by decide +kernel
theorem d_T_fill_14 : decode c_T_fill 14 = .ok (.ifCond .eq 23, 3) := by decide +kernel
theorem d_T_fill_17 : decode c_T_fill 17 = .ok (.iload_n 2, 1) := by decide +kernel
theorem d_T_fill_18 : decode c_T_fill 18 = .ok (.i2l, 1) := by decide +kernel
theorem d_T_fill_19 : decode c_T_fill 19 = .ok (.ldc2_w 50, 3) := by decide +kernel
theorem d_T_fill_22 : decode c_T_fill 22 = .ok (.iconst 2, 1) := by decide +kernel
theorem d_T_fill_23 : decode c_T_fill 23 = .ok (.aload_n 0, 1) := by decide +kernel
theorem d_T_fill_24 : decode c_T_fill 24 = .ok (.getfield 35, 3) := by decide +kernel
theorem d_T_fill_27 : decode c_T_fill 27 = .ok (.imul, 1) := by decide +kernel
theorem d_T_fill_28 : decode c_T_fill 28 = .ok (.iconst 2, 1) := by decide +kernel
theorem d_T_fill_29 : decode c_T_fill 29 = .ok (.isub, 1) := by decide +kernel
theorem d_T_fill_30 : decode c_T_fill 30 = .ok (.i2l, 1) := by decide +kernel
theorem d_T_fill_31 : decode c_T_fill 31 = .ok (.invokestatic 42, 3) := by decide +kernel
theorem d_T_fill_34 : decode c_T_fill 34 = .ok (.ifCond .ne 7, 3) := by decide +kernel
theorem d_T_fill_37 : decode c_T_fill 37 = .ok (.iconst 1, 1) := by decide +kernel
theorem d_T_fill_38 : decode c_T_fill 38 = .ok (.goto 4, 3) := by decide +kernel
theorem d_T_fill_41 : decode c_T_fill 41 = .ok (.iconst 0, 1) := by decide +kernel
theorem d_T_fill_42 : decode c_T_fill 42 = .ok (.putfield 39, 3) := by decide +kernel
theorem d_T_fill_45 : decode c_T_fill 45 = .ok (.iconst 0, 1) := by decide +kernel
theorem d_T_fill_46 : decode c_T_fill 46 = .ok (.istore_n 3, 1) := by decide +kernel
theorem d_T_fill_47 : decode c_T_fill 47 = .ok (.iconst 0, 1) := by decide +kernel
theorem d_T_fill_48 : decode c_T_fill 48 = .ok (.istore 4, 2) := by decide +kernel
theorem d_T_fill_50 : decode c_T_fill 50 = .ok (.iload 4, 2) := by decide +kernel
theorem d_T_fill_52 : decode c_T_fill 52 = .ok (.aload_n 0, 1) := by decide +kernel
theorem d_T_fill_53 : decode c_T_fill 53 = .ok (.getfield 35, 3) := by decide +kernel
theorem d_T_fill_56 : decode c_T_fill 56 = .ok (.if_icmp .ge 70, 3) := by decide +kernel
theorem d_T_fill_59 : decode c_T_fill 59 = .ok (.aload_n 0, 1) := by decide +kernel
theorem d_T_fill_60 : decode c_T_fill 60 = .ok (.getfield 39, 3) := by decide +kernel
theorem d_T_fill_63 : decode c_T_fill 63 = .ok (.ifCond .ne 63, 3) := by decide +kernel
theorem d_T_fill_66 : decode c_T_fill 66 = .ok (.aload_n 0, 1) := by decide +kernel
theorem d_T_fill_67 : decode c_T_fill 67 = .ok (.getfield 7, 3) := by decide +kernel
theorem d_T_fill_70 : decode c_T_fill 70 = .ok (.iload 4, 2) := by decide +kernel
theorem d_T_fill_72 : decode c_T_fill 72 = .ok (.iaload, 1) := by decide +kernel
theorem d_T_fill_73 : decode c_T_fill 73 = .ok (.ifCond .ge 14, 3) := by decide +kernel
theorem d_T_fill_76 : decode c_T_fill 76 = .ok (.aload_n 0, 1) := by decide +kernel
theorem d_T_fill_77 : decode c_T_fill 77 = .ok (.iload 4, 2) := by decide +kernel
theorem d_T_fill_79 : decode c_T_fill 79 = .ok (.iload_n 1, 1) := by decide +kernel
theorem d_T_fill_80 : decode c_T_fill 80 = .ok (.iload_n 2, 1) := by decide +kernel
theorem d_T_fill_81 : decode c_T_fill 81 = .ok (.invokevirtual 80, 3) := by decide +kernel
theorem d_T_fill_84 : decode c_T_fill 84 = .ok (.goto 4, 3) := by decide +kernel
theorem d_T_fill_87 : decode c_T_fill 87 = .ok (.iconst (-1), 1) := by decide +kernel
theorem d_T_fill_88 : decode c_T_fill 88 = .ok (.istore 5, 2) := by decide +kernel
theorem d_T_fill_90 : decode c_T_fill 90 = .ok (.iload 5, 2) := by decide +kernel
theorem d_T_fill_92 : decode c_T_fill 92 = .ok (.ifCond .lt 28, 3) := by decide +kernel
theorem d_T_fill_95 : decode c_T_fill 95 = .ok (.aload_n 0, 1) := by decide +kernel
theorem d_T_fill_96 : decode c_T_fill 96 = .ok (.getfield 7, 3) := by decide +kernel
theorem d_T_fill_99 : decode c_T_fill 99 = .ok (.iload 4, 2) := by decide +kernel
theorem d_T_fill_101 : decode c_T_fill 101 = .ok (.aload_n 0, 1) := by decide +kernel
theorem d_T_fill_102 : decode c_T_fill 102 = .ok (.getfield 7, 3) := by decide +kernel
theorem d_T_fill_105 : decode c_T_fill 105 = .ok (.iload 5, 2) := by decide +kernel
theorem d_T_fill_107 : decode c_T_fill 107 = .ok (.iaload, 1) := by decide +kernel
theorem d_T_fill_108 : decode c_T_fill 108 = .ok (.iastore, 1) := by decide +kernel
theorem d_T_fill_109 : decode c_T_fill 109 = .ok (.aload_n 0, 1) := by decide +kernel
theorem d_T_fill_110 : decode c_T_fill 110 = .ok (.getfield 13, 3) := by decide +kernel
theorem d_T_fill_113 : decode c_T_fill 113 = .ok (.iload 4, 2) := by decide +kernel
theorem d_T_fill_115 : decode c_T_fill 115 = .ok (.iconst 1, 1) := by decide +kernel
theorem d_T_fill_116 : decode c_T_fill 116 = .ok (.bastore, 1) := by decide +kernel
theorem d_T_fill_117 : decode c_T_fill 117 = .ok (.iinc 3 1, 3) := by decide +kernel
theorem d_T_fill_120 : decode c_T_fill 120 = .ok (.iinc 4 1, 3) := by decide +kernel
theorem d_T_fill_123 : decode c_T_fill 123 = .ok (.goto (-73), 3) := by decide +kernel
theorem d_T_fill_126 : decode c_T_fill 126 = .ok (.iload_n 3, 1) := by decide +kernel
theorem d_T_fill_127 : decode c_T_fill 127 = .ok (.ireturn, 1) := by decide +kernel
theorem d_T_source_0 : decode c_T_source 0 = .ok (.iconst 2, 1) := by decide +kernel
theorem d_T_source_1 : decode c_T_source 1 = .ok (.istore 4, 2) := by decide +kernel
theorem d_T_source_3 : decode c_T_source 3 = .ok (.iload 4, 2) := by decide +kernel
theorem d_T_source_5 : decode c_T_source 5 = .ok (.bipush 18, 2) := by decide +kernel
theorem d_T_source_7 : decode c_T_source 7 = .ok (.if_icmp .ge 54, 3) := by decide +kernel
theorem d_T_source_10 : decode c_T_source 10 = .ok (.iload_n 2, 1) := by decide +kernel
theorem d_T_source_11 : decode c_T_source 11 = .ok (.ifCond .le 50, 3) := by decide +kernel
theorem d_T_source_14 : decode c_T_source 14 = .ok (.iload_n 1, 1) := by decide +kernel
theorem d_T_source_15 : decode c_T_source 15 = .ok (.i2l, 1) := by decide +kernel
theorem d_T_source_16 : decode c_T_source 16 = .ok (.iload 4, 2) := by decide +kernel
theorem d_T_source_18 : decode c_T_source 18 = .ok (.iconst 2, 1) := by decide +kernel
theorem d_T_source_19 : decode c_T_source 19 = .ok (.irem, 1) := by decide +kernel
theorem d_T_source_20 : decode c_T_source 20 = .ok (.ifCond .ne 9, 3) := by decide +kernel
theorem d_T_source_23 : decode c_T_source 23 = .ok (.ldc2_w 50, 3) := by decide +kernel
theorem d_T_source_26 : decode c_T_source 26 = .ok (.goto 4, 3) := by decide +kernel
theorem d_T_source_29 : decode c_T_source 29 = .ok (.lconst 1, 1) := by decide +kernel
theorem d_T_source_30 : decode c_T_source 30 = .ok (.iload 4, 2) := by decide +kernel
theorem d_T_source_32 : decode c_T_source 32 = .ok (.iconst 2, 1) := by decide +kernel
theorem d_T_source_33 : decode c_T_source 33 = .ok (.idiv, 1) := by decide +kernel
theorem d_T_source_34 : decode c_T_source 34 = .ok (.i2l, 1) := by decide +kernel
theorem d_T_source_35 : decode c_T_source 35 = .ok (.lmul, 1) := by decide +kernel
theorem d_T_source_36 : decode c_T_source 36 = .ok (.iload_n 2, 1) := by decide +kernel
theorem d_T_source_37 : decode c_T_source 37 = .ok (.i2l, 1) := by decide +kernel
theorem d_T_source_38 : decode c_T_source 38 = .ok (.lmul, 1) := by decide +kernel
theorem d_T_source_39 : decode c_T_source 39 = .ok (.ladd, 1) := by decide +kernel
theorem d_T_source_40 : decode c_T_source 40 = .ok (.lstore 5, 2) := by decide +kernel
theorem d_T_source_42 : decode c_T_source 42 = .ok (.aload_n 0, 1) := by decide +kernel
theorem d_T_source_43 : decode c_T_source 43 = .ok (.lload 5, 2) := by decide +kernel
theorem d_T_source_45 : decode c_T_source 45 = .ok (.invokevirtual 64, 3) := by decide +kernel
theorem d_T_source_48 : decode c_T_source 48 = .ok (.ifCond .eq 7, 3) := by decide +kernel
theorem d_T_source_51 : decode c_T_source 51 = .ok (.lload 5, 2) := by decide +kernel
theorem d_T_source_53 : decode c_T_source 53 = .ok (.l2i, 1) := by decide +kernel
theorem d_T_source_54 : decode c_T_source 54 = .ok (.ireturn, 1) := by decide +kernel
theorem d_T_source_55 : decode c_T_source 55 = .ok (.iinc 4 1, 3) := by decide +kernel
theorem d_T_source_58 : decode c_T_source 58 = .ok (.goto (-55), 3) := by decide +kernel
theorem d_T_source_61 : decode c_T_source 61 = .ok (.iload_n 3, 1) := by decide +kernel
theorem d_T_source_62 : decode c_T_source 62 = .ok (.ifCond .lt 20, 3) := by decide +kernel
theorem d_T_source_65 : decode c_T_source 65 = .ok (.aload_n 0, 1) := by decide +kernel
theorem d_T_source_66 : decode c_T_source 66 = .ok (.iload_n 3, 1) := by decide +kernel
theorem d_T_source_67 : decode c_T_source 67 = .ok (.iload_n 1, 1) := by decide +kernel
theorem d_T_source_68 : decode c_T_source 68 = .ok (.isub, 1) := by decide +kernel
theorem d_T_source_69 : decode c_T_source 69 = .ok (.i2l, 1) := by decide +kernel
theorem d_T_source_70 : decode c_T_source 70 = .ok (.invokevirtual 64, 3) := by decide +kernel
theorem d_T_source_73 : decode c_T_source 73 = .ok (.ifCond .eq 9, 3) := by decide +kernel
theorem d_T_source_76 : decode c_T_source 76 = .ok (.iload_n 3, 1) := by decide +kernel
theorem d_T_source_77 : decode c_T_source 77 = .ok (.iload_n 1, 1) := by decide +kernel
theorem d_T_source_78 : decode c_T_source 78 = .ok (.isub, 1) := by decide +kernel
theorem d_T_source_79 : decode c_T_source 79 = .ok (.goto 4, 3) := by decide +kernel
theorem d_T_source_82 : decode c_T_source 82 = .ok (.iconst (-1), 1) := by decide +kernel
theorem d_T_source_83 : decode c_T_source 83 = .ok (.ireturn, 1) := by decide +kernel
theorem d_T_forget_0 : decode c_T_forget 0 = .ok (.aload_n 0, 1) := by decide +kernel
theorem d_T_forget_1 : decode c_T_forget 1 = .ok (.iconst 0, 1) := by decide +kernel
theorem d_T_forget_2 : decode c_T_forget 2 = .ok (.putfield 39, 3) := by decide +kernel
theorem d_T_forget_5 : decode c_T_forget 5 = .ok (.iconst 0, 1) := by decide +kernel
theorem d_T_forget_6 : decode c_T_forget 6 = .ok (.istore_n 1, 1) := by decide +kernel
theorem d_T_forget_7 : decode c_T_forget 7 = .ok (.iconst 0, 1) := by decide +kernel
theorem d_T_forget_8 : decode c_T_forget 8 = .ok (.istore_n 2, 1) := by decide +kernel
theorem d_T_forget_9 : decode c_T_forget 9 = .ok (.iload_n 2, 1) := by decide +kernel
theorem d_T_forget_10 : decode c_T_forget 10 = .ok (.aload_n 0, 1) := by decide +kernel
theorem d_T_forget_11 : decode c_T_forget 11 = .ok (.getfield 35, 3) := by decide +kernel
theorem d_T_forget_14 : decode c_T_forget 14 = .ok (.if_icmp .ge 35, 3) := by decide +kernel
theorem d_T_forget_17 : decode c_T_forget 17 = .ok (.aload_n 0, 1) := by decide +kernel
theorem d_T_forget_18 : decode c_T_forget 18 = .ok (.getfield 13, 3) := by decide +kernel
theorem d_T_forget_21 : decode c_T_forget 21 = .ok (.iload_n 2, 1) := by decide +kernel
theorem d_T_forget_22 : decode c_T_forget 22 = .ok (.baload, 1) := by decide +kernel
theorem d_T_forget_23 : decode c_T_forget 23 = .ok (.ifCond .eq 20, 3) := by decide +kernel
theorem d_T_forget_26 : decode c_T_forget 26 = .ok (.aload_n 0, 1) := by decide +kernel
theorem d_T_forget_27 : decode c_T_forget 27 = .ok (.getfield 7, 3) := by decide +kernel
theorem d_T_forget_30 : decode c_T_forget 30 = .ok (.iload_n 2, 1) := by decide +kernel
theorem d_T_forget_31 : decode c_T_forget 31 = .ok (.iconst (-1), 1) := by decide +kernel
theorem d_T_forget_32 : decode c_T_forget 32 = .ok (.iastore, 1) := by decide +kernel
theorem d_T_forget_33 : decode c_T_forget 33 = .ok (.aload_n 0, 1) := by decide +kernel
theorem d_T_forget_34 : decode c_T_forget 34 = .ok (.getfield 13, 3) := by decide +kernel
theorem d_T_forget_37 : decode c_T_forget 37 = .ok (.iload_n 2, 1) := by decide +kernel
theorem d_T_forget_38 : decode c_T_forget 38 = .ok (.iconst 0, 1) := by decide +kernel
theorem d_T_forget_39 : decode c_T_forget 39 = .ok (.bastore, 1) := by decide +kernel
theorem d_T_forget_40 : decode c_T_forget 40 = .ok (.iinc 1 1, 3) := by decide +kernel
theorem d_T_forget_43 : decode c_T_forget 43 = .ok (.iinc 2 1, 3) := by decide +kernel
theorem d_T_forget_46 : decode c_T_forget 46 = .ok (.goto (-37), 3) := by decide +kernel
theorem d_T_forget_49 : decode c_T_forget 49 = .ok (.iload_n 1, 1) := by decide +kernel
theorem d_T_forget_50 : decode c_T_forget 50 = .ok (.ireturn, 1) := by decide +kernel
theorem d_T_shape_0 : decode c_T_shape 0 = .ok (.aload_n 0, 1) := by decide +kernel
theorem d_T_shape_1 : decode c_T_shape 1 = .ok (.iload_n 1, 1) := by decide +kernel
theorem d_T_shape_2 : decode c_T_shape 2 = .ok (.i2l, 1) := by decide +kernel
theorem d_T_shape_3 : decode c_T_shape 3 = .ok (.ldc2_w 74, 3) := by decide +kernel
theorem d_T_shape_6 : decode c_T_shape 6 = .ok (.ldc2_w 84, 3) := by decide +kernel
theorem d_T_shape_9 : decode c_T_shape 9 = .ok (.invokestatic 42, 3) := by decide +kernel
theorem d_T_shape_12 : decode c_T_shape 12 = .ok (.ifCond .ne 7, 3) := by decide +kernel
theorem d_T_shape_15 : decode c_T_shape 15 = .ok (.iconst 1, 1) := by decide +kernel
theorem d_T_shape_16 : decode c_T_shape 16 = .ok (.goto 17, 3) := by decide +kernel
theorem d_T_shape_19 : decode c_T_shape 19 = .ok (.aload_n 0, 1) := by decide +kernel
theorem d_T_shape_20 : decode c_T_shape 20 = .ok (.getfield 86, 3) := by decide +kernel
theorem d_T_shape_23 : decode c_T_shape 23 = .ok (.bipush 8, 2) := by decide +kernel
theorem d_T_shape_25 : decode c_T_shape 25 = .ok (.if_icmp .ne 7, 3) := by decide +kernel
theorem d_T_shape_28 : decode c_T_shape 28 = .ok (.iconst 2, 1) := by decide +kernel
theorem d_T_shape_29 : decode c_T_shape 29 = .ok (.goto 4, 3) := by decide +kernel
theorem d_T_shape_32 : decode c_T_shape 32 = .ok (.iconst 0, 1) := by decide +kernel
theorem d_T_shape_33 : decode c_T_shape 33 = .ok (.putfield 39, 3) := by decide +kernel
theorem d_T_shape_36 : decode c_T_shape 36 = .ok (.aload_n 0, 1) := by decide +kernel
theorem d_T_shape_37 : decode c_T_shape 37 = .ok (.getfield 39, 3) := by decide +kernel
theorem d_T_shape_40 : decode c_T_shape 40 = .ok (.ifCond .le 5, 3) := by decide +kernel
theorem d_T_shape_43 : decode c_T_shape 43 = .ok (.iconst 0, 1) := by decide +kernel
theorem d_T_shape_44 : decode c_T_shape 44 = .ok (.ireturn, 1) := by decide +kernel
theorem d_T_shape_45 : decode c_T_shape 45 = .ok (.aload_n 0, 1) := by decide +kernel
theorem d_T_shape_46 : decode c_T_shape 46 = .ok (.getfield 17, 3) := by decide +kernel
theorem d_T_shape_49 : decode c_T_shape 49 = .ok (.aload_n 0, 1) := by decide +kernel
theorem d_T_shape_50 : decode c_T_shape 50 = .ok (.getfield 86, 3) := by decide +kernel
theorem d_T_shape_53 : decode c_T_shape 53 = .ok (.iload_n 1, 1) := by decide +kernel
theorem d_T_shape_54 : decode c_T_shape 54 = .ok (.iastore, 1) := by decide +kernel
theorem d_T_shape_55 : decode c_T_shape 55 = .ok (.iconst 0, 1) := by decide +kernel
theorem d_T_shape_56 : decode c_T_shape 56 = .ok (.istore_n 2, 1) := by decide +kernel
theorem d_T_shape_57 : decode c_T_shape 57 = .ok (.iload_n 2, 1) := by decide +kernel
theorem d_T_shape_58 : decode c_T_shape 58 = .ok (.bipush 16, 2) := by decide +kernel
theorem d_T_shape_60 : decode c_T_shape 60 = .ok (.if_icmp .ge 26, 3) := by decide +kernel
theorem d_T_shape_63 : decode c_T_shape 63 = .ok (.aload_n 0, 1) := by decide +kernel
theorem d_T_shape_64 : decode c_T_shape 64 = .ok (.getfield 20, 3) := by decide +kernel
theorem d_T_shape_67 : decode c_T_shape 67 = .ok (.bipush 16, 2) := by decide +kernel
theorem d_T_shape_69 : decode c_T_shape 69 = .ok (.aload_n 0, 1) := by decide +kernel
theorem d_T_shape_70 : decode c_T_shape 70 = .ok (.getfield 86, 3) := by decide +kernel
theorem d_T_shape_73 : decode c_T_shape 73 = .ok (.imul, 1) := by decide +kernel
theorem d_T_shape_74 : decode c_T_shape 74 = .ok (.iload_n 2, 1) := by decide +kernel
theorem d_T_shape_75 : decode c_T_shape 75 = .ok (.iadd, 1) := by decide +kernel
theorem d_T_shape_76 : decode c_T_shape 76 = .ok (.sipush 128, 3) := by decide +kernel
theorem d_T_shape_79 : decode c_T_shape 79 = .ok (.iastore, 1) := by decide +kernel
theorem d_T_shape_80 : decode c_T_shape 80 = .ok (.iinc 2 1, 3) := by decide +kernel
theorem d_T_shape_83 : decode c_T_shape 83 = .ok (.goto (-26), 3) := by decide +kernel
theorem d_T_shape_86 : decode c_T_shape 86 = .ok (.aload_n 0, 1) := by decide +kernel
theorem d_T_shape_87 : decode c_T_shape 87 = .ok (.dup, 1) := by decide +kernel
theorem d_T_shape_88 : decode c_T_shape 88 = .ok (.getfield 86, 3) := by decide +kernel
theorem d_T_shape_91 : decode c_T_shape 91 = .ok (.iconst 1, 1) := by decide +kernel
theorem d_T_shape_92 : decode c_T_shape 92 = .ok (.iadd, 1) := by decide +kernel
theorem d_T_shape_93 : decode c_T_shape 93 = .ok (.putfield 86, 3) := by decide +kernel
theorem d_T_shape_96 : decode c_T_shape 96 = .ok (.aload_n 0, 1) := by decide +kernel
theorem d_T_shape_97 : decode c_T_shape 97 = .ok (.getfield 86, 3) := by decide +kernel
theorem d_T_shape_100 : decode c_T_shape 100 = .ok (.iconst 1, 1) := by decide +kernel
theorem d_T_shape_101 : decode c_T_shape 101 = .ok (.isub, 1) := by decide +kernel
theorem d_T_shape_102 : decode c_T_shape 102 = .ok (.ireturn, 1) := by decide +kernel
theorem d_T_carve_0 : decode c_T_carve 0 = .ok (.aload_n 0, 1) := by decide +kernel
theorem d_T_carve_1 : decode c_T_carve 1 = .ok (.iload_n 1, 1) := by decide +kernel
theorem d_T_carve_2 : decode c_T_carve 2 = .ok (.i2l, 1) := by decide +kernel
theorem d_T_carve_3 : decode c_T_carve 3 = .ok (.lconst 0, 1) := by decide +kernel
theorem d_T_carve_4 : decode c_T_carve 4 = .ok (.aload_n 0, 1) := by decide +kernel
theorem d_T_carve_5 : decode c_T_carve 5 = .ok (.getfield 86, 3) := by decide +kernel
theorem d_T_carve_8 : decode c_T_carve 8 = .ok (.iconst 1, 1) := by decide +kernel
theorem d_T_carve_9 : decode c_T_carve 9 = .ok (.isub, 1) := by decide +kernel
theorem d_T_carve_10 : decode c_T_carve 10 = .ok (.i2l, 1) := by decide +kernel
theorem d_T_carve_11 : decode c_T_carve 11 = .ok (.invokestatic 42, 3) := by decide +kernel
theorem d_T_carve_14 : decode c_T_carve 14 = .ok (.ifCond .eq 21, 3) := by decide +kernel
theorem d_T_carve_17 : decode c_T_carve 17 = .ok (.iload_n 2, 1) := by decide +kernel
theorem d_T_carve_18 : decode c_T_carve 18 = .ok (.i2l, 1) := by decide +kernel
theorem d_T_carve_19 : decode c_T_carve 19 = .ok (.lconst 0, 1) := by decide +kernel
theorem d_T_carve_20 : decode c_T_carve 20 = .ok (.aload_n 0, 1) := by decide +kernel
theorem d_T_carve_21 : decode c_T_carve 21 = .ok (.getfield 17, 3) := by decide +kernel
theorem d_T_carve_24 : decode c_T_carve 24 = .ok (.iload_n 1, 1) := by decide +kernel
theorem d_T_carve_25 : decode c_T_carve 25 = .ok (.iaload, 1) := by decide +kernel
theorem d_T_carve_26 : decode c_T_carve 26 = .ok (.iconst 1, 1) := by decide +kernel
theorem d_T_carve_27 : decode c_T_carve 27 = .ok (.isub, 1) := by decide +kernel
theorem d_T_carve_28 : decode c_T_carve 28 = .ok (.i2l, 1) := by decide +kernel
theorem d_T_carve_29 : decode c_T_carve 29 = .ok (.invokestatic 42, 3) := by decide +kernel
theorem d_T_carve_32 : decode c_T_carve 32 = .ok (.ifCond .ne 7, 3) := by decide +kernel
theorem d_T_carve_35 : decode c_T_carve 35 = .ok (.iconst 1, 1) := by decide +kernel
theorem d_T_carve_36 : decode c_T_carve 36 = .ok (.goto 20, 3) := by decide +kernel
theorem d_T_carve_39 : decode c_T_carve 39 = .ok (.iload_n 3, 1) := by decide +kernel
theorem d_T_carve_40 : decode c_T_carve 40 = .ok (.i2l, 1) := by decide +kernel
theorem d_T_carve_41 : decode c_T_carve 41 = .ok (.lconst 0, 1) := by decide +kernel
theorem d_T_carve_42 : decode c_T_carve 42 = .ok (.ldc2_w 52, 3) := by decide +kernel
theorem d_T_carve_45 : decode c_T_carve 45 = .ok (.invokestatic 42, 3) := by decide +kernel
theorem d_T_carve_48 : decode c_T_carve 48 = .ok (.ifCond .ne 7, 3) := by decide +kernel
theorem d_T_carve_51 : decode c_T_carve 51 = .ok (.iconst 2, 1) := by decide +kernel
theorem d_T_carve_52 : decode c_T_carve 52 = .ok (.goto 4, 3) := by decide +kernel
theorem d_T_carve_55 : decode c_T_carve 55 = .ok (.iconst 0, 1) := by decide +kernel
theorem d_T_carve_56 : decode c_T_carve 56 = .ok (.putfield 39, 3) := by decide +kernel
theorem d_T_carve_59 : decode c_T_carve 59 = .ok (.aload_n 0, 1) := by decide +kernel
theorem d_T_carve_60 : decode c_T_carve 60 = .ok (.getfield 39, 3) := by decide +kernel
theorem d_T_carve_63 : decode c_T_carve 63 = .ok (.ifCond .ne 15, 3) := by decide +kernel
theorem d_T_carve_66 : decode c_T_carve 66 = .ok (.aload_n 0, 1) := by decide +kernel
theorem d_T_carve_67 : decode c_T_carve 67 = .ok (.getfield 20, 3) := by decide +kernel
theorem d_T_carve_70 : decode c_T_carve 70 = .ok (.bipush 16, 2) := by decide +kernel
theorem d_T_carve_72 : decode c_T_carve 72 = .ok (.iload_n 1, 1) := by decide +kernel
theorem d_T_carve_73 : decode c_T_carve 73 = .ok (.imul, 1) := by decide +kernel
theorem d_T_carve_74 : decode c_T_carve 74 = .ok (.iload_n 2, 1) := by decide +kernel
theorem d_T_carve_75 : decode c_T_carve 75 = .ok (.iadd, 1) := by decide +kernel
theorem d_T_carve_76 : decode c_T_carve 76 = .ok (.iload_n 3, 1) := by decide +kernel
theorem d_T_carve_77 : decode c_T_carve 77 = .ok (.iastore, 1) := by decide +kernel
theorem d_T_carve_78 : decode c_T_carve 78 = .ok (.return_, 1) := by decide +kernel
theorem d_T_match__0 : decode c_T_match_ 0 = .ok (.aload_n 0, 1) := by decide +kernel
theorem d_T_match__1 : decode c_T_match_ 1 = .ok (.invokevirtual 92, 3) := by decide +kernel
theorem d_T_match__4 : decode c_T_match_ 4 = .ok (.aload_n 0, 1) := by decide +kernel
theorem d_T_match__5 : decode c_T_match_ 5 = .ok (.aload_n 0, 1) := by decide +kernel
theorem d_T_match__6 : decode c_T_match_ 6 = .ok (.getfield 61, 3) := by decide +kernel
theorem d_T_match__9 : decode c_T_match_ 9 = .ok (.iconst (-1), 1) := by decide +kernel
theorem d_T_match__10 : decode c_T_match_ 10 = .ok (.if_icmp .ne 7, 3) := by decide +kernel
theorem d_T_match__13 : decode c_T_match_ 13 = .ok (.iconst 1, 1) := by decide +kernel
theorem d_T_match__14 : decode c_T_match_ 14 = .ok (.goto 20, 3) := by decide +kernel
theorem d_T_match__17 : decode c_T_match_ 17 = .ok (.iload_n 1, 1) := by decide +kernel
theorem d_T_match__18 : decode c_T_match_ 18 = .ok (.i2l, 1) := by decide +kernel
theorem d_T_match__19 : decode c_T_match_ 19 = .ok (.lconst 0, 1) := by decide +kernel
theorem d_T_match__20 : decode c_T_match_ 20 = .ok (.ldc2_w 95, 3) := by decide +kernel
theorem d_T_match__23 : decode c_T_match_ 23 = .ok (.invokestatic 42, 3) := by decide +kernel
theorem d_T_match__26 : decode c_T_match_ 26 = .ok (.ifCond .ne 7, 3) := by decide +kernel
theorem d_T_match__29 : decode c_T_match_ 29 = .ok (.iconst 2, 1) := by decide +kernel
theorem d_T_match__30 : decode c_T_match_ 30 = .ok (.goto 4, 3) := by decide +kernel
theorem d_T_match__33 : decode c_T_match_ 33 = .ok (.iconst 0, 1) := by decide +kernel
theorem d_T_match__34 : decode c_T_match_ 34 = .ok (.putfield 39, 3) := by decide +kernel
theorem d_T_match__37 : decode c_T_match_ 37 = .ok (.aload_n 0, 1) := by decide +kernel
theorem d_T_match__38 : decode c_T_match_ 38 = .ok (.getfield 39, 3) := by decide +kernel
theorem d_T_match__41 : decode c_T_match_ 41 = .ok (.ifCond .le 7, 3) := by decide +kernel
theorem d_T_match__44 : decode c_T_match_ 44 = .ok (.iconst 0, 1) := by decide +kernel
theorem d_T_match__45 : decode c_T_match_ 45 = .ok (.goto 43, 3) := by decide +kernel
theorem d_T_match__48 : decode c_T_match_ 48 = .ok (.iload_n 1, 1) := by decide +kernel
theorem d_T_match__49 : decode c_T_match_ 49 = .ok (.ifCond .ne 10, 3) := by decide +kernel
theorem d_T_match__52 : decode c_T_match_ 52 = .ok (.aload_n 0, 1) := by decide +kernel
theorem d_T_match__53 : decode c_T_match_ 53 = .ok (.getfield 61, 3) := by decide +kernel
theorem d_T_match__56 : decode c_T_match_ 56 = .ok (.goto 32, 3) := by decide +kernel
theorem d_T_match__59 : decode c_T_match_ 59 = .ok (.iload_n 1, 1) := by decide +kernel
theorem d_T_match__60 : decode c_T_match_ 60 = .ok (.iconst 1, 1) := by decide +kernel
theorem d_T_match__61 : decode c_T_match_ 61 = .ok (.if_icmp .ne 10, 3) := by decide +kernel
theorem d_T_match__64 : decode c_T_match_ 64 = .ok (.aload_n 0, 1) := by decide +kernel
theorem d_T_match__65 : decode c_T_match_ 65 = .ok (.getfield 89, 3) := by decide +kernel
theorem d_T_match__68 : decode c_T_match_ 68 = .ok (.goto 20, 3) := by decide +kernel
theorem d_T_match__71 : decode c_T_match_ 71 = .ok (.iload_n 1, 1) := by decide +kernel
theorem d_T_match__72 : decode c_T_match_ 72 = .ok (.iconst 2, 1) := by decide +kernel
theorem d_T_match__73 : decode c_T_match_ 73 = .ok (.if_icmp .ne 11, 3) := by decide +kernel
theorem d_T_match__76 : decode c_T_match_ 76 = .ok (.aload_n 0, 1) := by decide +kernel
theorem d_T_match__77 : decode c_T_match_ 77 = .ok (.getfield 57, 3) := by decide +kernel
theorem d_T_match__80 : decode c_T_match_ 80 = .ok (.l2i, 1) := by decide +kernel
theorem d_T_match__81 : decode c_T_match_ 81 = .ok (.goto 7, 3) := by decide +kernel
theorem d_T_match__84 : decode c_T_match_ 84 = .ok (.aload_n 0, 1) := by decide +kernel
theorem d_T_match__85 : decode c_T_match_ 85 = .ok (.getfield 54, 3) := by decide +kernel
theorem d_T_match__88 : decode c_T_match_ 88 = .ok (.ireturn, 1) := by decide +kernel
theorem d_T_findMatch_0 : decode c_T_findMatch 0 = .ok (.aload_n 0, 1) := by decide +kernel
theorem d_T_findMatch_1 : decode c_T_findMatch 1 = .ok (.iconst (-1), 1) := by decide +kernel
theorem d_T_findMatch_2 : decode c_T_findMatch 2 = .ok (.putfield 61, 3) := by decide +kernel
theorem d_T_findMatch_5 : decode c_T_findMatch 5 = .ok (.iconst 0, 1) := by decide +kernel
theorem d_T_findMatch_6 : decode c_T_findMatch 6 = .ok (.istore_n 1, 1) := by decide +kernel
theorem d_T_findMatch_7 : decode c_T_findMatch 7 = .ok (.iload_n 1, 1) := by decide +kernel
theorem d_T_findMatch_8 : decode c_T_findMatch 8 = .ok (.aload_n 0, 1) := by decide +kernel
theorem d_T_findMatch_9 : decode c_T_findMatch 9 = .ok (.getfield 86, 3) := by decide +kernel
theorem d_T_findMatch_12 : decode c_T_findMatch 12 = .ok (.if_icmp .ge 161, 3) := by decide +kernel
theorem d_T_findMatch_15 : decode c_T_findMatch 15 = .ok (.iconst 0, 1) := by decide +kernel
theorem d_T_findMatch_16 : decode c_T_findMatch 16 = .ok (.istore_n 2, 1) := by decide +kernel
theorem d_T_findMatch_17 : decode c_T_findMatch 17 = .ok (.iload_n 2, 1) := by decide +kernel
theorem d_T_findMatch_18 : decode c_T_findMatch 18 = .ok (.aload_n 0, 1) := by decide +kernel
theorem d_T_findMatch_19 : decode c_T_findMatch 19 = .ok (.getfield 35, 3) := by decide +kernel
theorem d_T_findMatch_22 : decode c_T_findMatch 22 = .ok (.if_icmp .ge 145, 3) := by decide +kernel
theorem d_T_findMatch_25 : decode c_T_findMatch 25 = .ok (.lconst 0, 1) := by decide +kernel
theorem d_T_findMatch_26 : decode c_T_findMatch 26 = .ok (.lstore_n 3, 1) := by decide +kernel
theorem d_T_findMatch_27 : decode c_T_findMatch 27 = .ok (.iconst 0, 1) := by decide +kernel
theorem d_T_findMatch_28 : decode c_T_findMatch 28 = .ok (.istore 5, 2) := by decide +kernel
theorem d_T_findMatch_30 : decode c_T_findMatch 30 = .ok (.iconst 0, 1) := by decide +kernel
theorem d_T_findMatch_31 : decode c_T_findMatch 31 = .ok (.istore 6, 2) := by decide +kernel
theorem d_T_findMatch_33 : decode c_T_findMatch 33 = .ok (.iload 6, 2) := by decide +kernel
theorem d_T_findMatch_35 : decode c_T_findMatch 35 = .ok (.aload_n 0, 1) := by decide +kernel
theorem d_T_findMatch_36 : decode c_T_findMatch 36 = .ok (.getfield 17, 3) := by decide +kernel
theorem d_T_findMatch_39 : decode c_T_findMatch 39 = .ok (.iload_n 1, 1) := by decide +kernel
theorem d_T_findMatch_40 : decode c_T_findMatch 40 = .ok (.iaload, 1) := by decide +kernel
theorem d_T_findMatch_41 : decode c_T_findMatch 41 = .ok (.if_icmp .ge 76, 3) := by decide +kernel
theorem d_T_findMatch_44 : decode c_T_findMatch 44 = .ok (.iload_n 2, 1) := by decide +kernel
theorem d_T_findMatch_45 : decode c_T_findMatch 45 = .ok (.iload 6, 2) := by decide +kernel
theorem d_T_findMatch_47 : decode c_T_findMatch 47 = .ok (.iadd, 1) := by decide +kernel
theorem d_T_findMatch_48 : decode c_T_findMatch 48 = .ok (.aload_n 0, 1) := by decide +kernel
theorem d_T_findMatch_49 : decode c_T_findMatch 49 = .ok (.getfield 35, 3) := by decide +kernel
theorem d_T_findMatch_52 : decode c_T_findMatch 52 = .ok (.if_icmp .ge 65, 3) := by decide +kernel
theorem d_T_findMatch_55 : decode c_T_findMatch 55 = .ok (.aload_n 0, 1) := by decide +kernel
theorem d_T_findMatch_56 : decode c_T_findMatch 56 = .ok (.getfield 7, 3) := by decide +kernel
theorem d_T_findMatch_59 : decode c_T_findMatch 59 = .ok (.iload_n 2, 1) := by decide +kernel
theorem d_T_findMatch_60 : decode c_T_findMatch 60 = .ok (.iload 6, 2) := by decide +kernel
theorem d_T_findMatch_62 : decode c_T_findMatch 62 = .ok (.iadd, 1) := by decide +kernel
theorem d_T_findMatch_63 : decode c_T_findMatch 63 = .ok (.iaload, 1) := by decide +kernel
theorem d_T_findMatch_64 : decode c_T_findMatch 64 = .ok (.ifCond .lt 47, 3) := by decide +kernel
theorem d_T_findMatch_67 : decode c_T_findMatch 67 = .ok (.aload_n 0, 1) := by decide +kernel
theorem d_T_findMatch_68 : decode c_T_findMatch 68 = .ok (.getfield 7, 3) := by decide +kernel
theorem d_T_findMatch_71 : decode c_T_findMatch 71 = .ok (.iload_n 2, 1) := by decide +kernel
theorem d_T_findMatch_72 : decode c_T_findMatch 72 = .ok (.iload 6, 2) := by decide +kernel
theorem d_T_findMatch_74 : decode c_T_findMatch 74 = .ok (.iadd, 1) := by decide +kernel
theorem d_T_findMatch_75 : decode c_T_findMatch 75 = .ok (.iaload, 1) := by decide +kernel
theorem d_T_findMatch_76 : decode c_T_findMatch 76 = .ok (.aload_n 0, 1) := by decide +kernel
theorem d_T_findMatch_77 : decode c_T_findMatch 77 = .ok (.getfield 20, 3) := by decide +kernel
theorem d_T_findMatch_80 : decode c_T_findMatch 80 = .ok (.bipush 16, 2) := by decide +kernel
theorem d_T_findMatch_82 : decode c_T_findMatch 82 = .ok (.iload_n 1, 1) := by decide +kernel
theorem d_T_findMatch_83 : decode c_T_findMatch 83 = .ok (.imul, 1) := by decide +kernel
theorem d_T_findMatch_84 : decode c_T_findMatch 84 = .ok (.iload 6, 2) := by decide +kernel
theorem d_T_findMatch_86 : decode c_T_findMatch 86 = .ok (.iadd, 1) := by decide +kernel
theorem d_T_findMatch_87 : decode c_T_findMatch 87 = .ok (.iaload, 1) := by decide +kernel
theorem d_T_findMatch_88 : decode c_T_findMatch 88 = .ok (.isub, 1) := by decide +kernel
theorem d_T_findMatch_89 : decode c_T_findMatch 89 = .ok (.istore 7, 2) := by decide +kernel
theorem d_T_findMatch_91 : decode c_T_findMatch 91 = .ok (.lload_n 3, 1) := by decide +kernel
theorem d_T_findMatch_92 : decode c_T_findMatch 92 = .ok (.iload 7, 2) := by decide +kernel
theorem d_T_findMatch_94 : decode c_T_findMatch 94 = .ok (.ifCond .ge 9, 3) := by decide +kernel
theorem d_T_findMatch_97 : decode c_T_findMatch 97 = .ok (.iload 7, 2) := by decide +kernel
theorem d_T_findMatch_99 : decode c_T_findMatch 99 = .ok (.ineg, 1) := by decide +kernel
theorem d_T_findMatch_100 : decode c_T_findMatch 100 = .ok (.goto 5, 3) := by decide +kernel
theorem d_T_findMatch_103 : decode c_T_findMatch 103 = .ok (.iload 7, 2) := by decide +kernel
theorem d_T_findMatch_105 : decode c_T_findMatch 105 = .ok (.i2l, 1) := by decide +kernel
theorem d_T_findMatch_106 : decode c_T_findMatch 106 = .ok (.ladd, 1) := by decide +kernel
theorem d_T_findMatch_107 : decode c_T_findMatch 107 = .ok (.lstore_n 3, 1) := by decide +kernel
theorem d_T_findMatch_108 : decode c_T_findMatch 108 = .ok (.iinc 5 1, 3) := by decide +kernel
theorem d_T_findMatch_111 : decode c_T_findMatch 111 = .ok (.iinc 6 1, 3) := by decide +kernel
theorem d_T_findMatch_114 : decode c_T_findMatch 114 = .ok (.goto (-81), 3) := by decide +kernel
theorem d_T_findMatch_117 : decode c_T_findMatch 117 = .ok (.iconst 2, 1) := by decide +kernel
theorem d_T_findMatch_118 : decode c_T_findMatch 118 = .ok (.iload 5, 2) := by decide +kernel
theorem d_T_findMatch_120 : decode c_T_findMatch 120 = .ok (.imul, 1) := by decide +kernel
theorem d_T_findMatch_121 : decode c_T_findMatch 121 = .ok (.aload_n 0, 1) := by decide +kernel
theorem d_T_findMatch_122 : decode c_T_findMatch 122 = .ok (.getfield 17, 3) := by decide +kernel
theorem d_T_findMatch_125 : decode c_T_findMatch 125 = .ok (.iload_n 1, 1) := by decide +kernel
theorem d_T_findMatch_126 : decode c_T_findMatch 126 = .ok (.iaload, 1) := by decide +kernel
theorem d_T_findMatch_127 : decode c_T_findMatch 127 = .ok (.if_icmp .lt 34, 3) := by decide +kernel
theorem d_T_findMatch_130 : decode c_T_findMatch 130 = .ok (.aload_n 0, 1) := by decide +kernel
theorem d_T_findMatch_131 : decode c_T_findMatch 131 = .ok (.lload_n 3, 1) := by decide +kernel
theorem d_T_findMatch_132 : decode c_T_findMatch 132 = .ok (.iload 5, 2) := by decide +kernel
theorem d_T_findMatch_134 : decode c_T_findMatch 134 = .ok (.invokevirtual 67, 3) := by decide +kernel
theorem d_T_findMatch_137 : decode c_T_findMatch 137 = .ok (.ifCond .eq 24, 3) := by decide +kernel
theorem d_T_findMatch_140 : decode c_T_findMatch 140 = .ok (.aload_n 0, 1) := by decide +kernel
theorem d_T_findMatch_141 : decode c_T_findMatch 141 = .ok (.iload_n 1, 1) := by decide +kernel
theorem d_T_findMatch_142 : decode c_T_findMatch 142 = .ok (.putfield 61, 3) := by decide +kernel
theorem d_T_findMatch_145 : decode c_T_findMatch 145 = .ok (.aload_n 0, 1) := by decide +kernel
theorem d_T_findMatch_146 : decode c_T_findMatch 146 = .ok (.iload_n 2, 1) := by decide +kernel
theorem d_T_findMatch_147 : decode c_T_findMatch 147 = .ok (.putfield 89, 3) := by decide +kernel
theorem d_T_findMatch_150 : decode c_T_findMatch 150 = .ok (.aload_n 0, 1) := by decide +kernel
theorem d_T_findMatch_151 : decode c_T_findMatch 151 = .ok (.lload_n 3, 1) := by decide +kernel
theorem d_T_findMatch_152 : decode c_T_findMatch 152 = .ok (.putfield 57, 3) := by decide +kernel
theorem d_T_findMatch_155 : decode c_T_findMatch 155 = .ok (.aload_n 0, 1) := by decide +kernel
theorem d_T_findMatch_156 : decode c_T_findMatch 156 = .ok (.iload 5, 2) := by decide +kernel
theorem d_T_findMatch_158 : decode c_T_findMatch 158 = .ok (.putfield 54, 3) := by decide +kernel
theorem d_T_findMatch_161 : decode c_T_findMatch 161 = .ok (.iinc 2 1, 3) := by decide +kernel
theorem d_T_findMatch_164 : decode c_T_findMatch 164 = .ok (.goto (-147), 3) := by decide +kernel
theorem d_T_findMatch_167 : decode c_T_findMatch 167 = .ok (.iinc 1 1, 3) := by decide +kernel
theorem d_T_findMatch_170 : decode c_T_findMatch 170 = .ok (.goto (-163), 3) := by decide +kernel
theorem d_T_findMatch_173 : decode c_T_findMatch 173 = .ok (.return_, 1) := by decide +kernel
theorem d_T_kind_0 : decode c_T_kind 0 = .ok (.aload_n 0, 1) := by decide +kernel
theorem d_T_kind_1 : decode c_T_kind 1 = .ok (.iload_n 1, 1) := by decide +kernel
theorem d_T_kind_2 : decode c_T_kind 2 = .ok (.i2l, 1) := by decide +kernel
theorem d_T_kind_3 : decode c_T_kind 3 = .ok (.lconst 0, 1) := by decide +kernel
theorem d_T_kind_4 : decode c_T_kind 4 = .ok (.ldc2_w 97, 3) := by decide +kernel
theorem d_T_kind_7 : decode c_T_kind 7 = .ok (.invokestatic 42, 3) := by decide +kernel
theorem d_T_kind_10 : decode c_T_kind 10 = .ok (.ifCond .ne 7, 3) := by decide +kernel
theorem d_T_kind_13 : decode c_T_kind 13 = .ok (.iconst 1, 1) := by decide +kernel
theorem d_T_kind_14 : decode c_T_kind 14 = .ok (.goto 17, 3) := by decide +kernel
theorem d_T_kind_17 : decode c_T_kind 17 = .ok (.aload_n 0, 1) := by decide +kernel
theorem d_T_kind_18 : decode c_T_kind 18 = .ok (.getfield 99, 3) := by decide +kernel
theorem d_T_kind_21 : decode c_T_kind 21 = .ok (.bipush 16, 2) := by decide +kernel
theorem d_T_kind_23 : decode c_T_kind 23 = .ok (.if_icmp .ne 7, 3) := by decide +kernel
theorem d_T_kind_26 : decode c_T_kind 26 = .ok (.iconst 2, 1) := by decide +kernel
theorem d_T_kind_27 : decode c_T_kind 27 = .ok (.goto 4, 3) := by decide +kernel
theorem d_T_kind_30 : decode c_T_kind 30 = .ok (.iconst 0, 1) := by decide +kernel
theorem d_T_kind_31 : decode c_T_kind 31 = .ok (.putfield 39, 3) := by decide +kernel
theorem d_T_kind_34 : decode c_T_kind 34 = .ok (.aload_n 0, 1) := by decide +kernel
theorem d_T_kind_35 : decode c_T_kind 35 = .ok (.getfield 39, 3) := by decide +kernel
theorem d_T_kind_38 : decode c_T_kind 38 = .ok (.ifCond .le 5, 3) := by decide +kernel
theorem d_T_kind_41 : decode c_T_kind 41 = .ok (.iconst 0, 1) := by decide +kernel
theorem d_T_kind_42 : decode c_T_kind 42 = .ok (.ireturn, 1) := by decide +kernel
theorem d_T_kind_43 : decode c_T_kind 43 = .ok (.aload_n 0, 1) := by decide +kernel
theorem d_T_kind_44 : decode c_T_kind 44 = .ok (.getfield 23, 3) := by decide +kernel
theorem d_T_kind_47 : decode c_T_kind 47 = .ok (.aload_n 0, 1) := by decide +kernel
theorem d_T_kind_48 : decode c_T_kind 48 = .ok (.getfield 99, 3) := by decide +kernel
theorem d_T_kind_51 : decode c_T_kind 51 = .ok (.iload_n 1, 1) := by decide +kernel
theorem d_T_kind_52 : decode c_T_kind 52 = .ok (.iastore, 1) := by decide +kernel
theorem d_T_kind_53 : decode c_T_kind 53 = .ok (.aload_n 0, 1) := by decide +kernel
theorem d_T_kind_54 : decode c_T_kind 54 = .ok (.dup, 1) := by decide +kernel
theorem d_T_kind_55 : decode c_T_kind 55 = .ok (.getfield 99, 3) := by decide +kernel
theorem d_T_kind_58 : decode c_T_kind 58 = .ok (.iconst 1, 1) := by decide +kernel
theorem d_T_kind_59 : decode c_T_kind 59 = .ok (.iadd, 1) := by decide +kernel
theorem d_T_kind_60 : decode c_T_kind 60 = .ok (.putfield 99, 3) := by decide +kernel
theorem d_T_kind_63 : decode c_T_kind 63 = .ok (.aload_n 0, 1) := by decide +kernel
theorem d_T_kind_64 : decode c_T_kind 64 = .ok (.getfield 99, 3) := by decide +kernel
theorem d_T_kind_67 : decode c_T_kind 67 = .ok (.iconst 1, 1) := by decide +kernel
theorem d_T_kind_68 : decode c_T_kind 68 = .ok (.isub, 1) := by decide +kernel
theorem d_T_kind_69 : decode c_T_kind 69 = .ok (.ireturn, 1) := by decide +kernel
theorem d_T_question_0 : decode c_T_question 0 = .ok (.aload_n 0, 1) := by decide +kernel
theorem d_T_question_1 : decode c_T_question 1 = .ok (.iload_n 2, 1) := by decide +kernel
theorem d_T_question_2 : decode c_T_question 2 = .ok (.i2l, 1) := by decide +kernel
theorem d_T_question_3 : decode c_T_question 3 = .ok (.lconst 0, 1) := by decide +kernel
theorem d_T_question_4 : decode c_T_question 4 = .ok (.aload_n 0, 1) := by decide +kernel
theorem d_T_question_5 : decode c_T_question 5 = .ok (.getfield 99, 3) := by decide +kernel
theorem d_T_question_8 : decode c_T_question 8 = .ok (.iconst 1, 1) := by decide +kernel
theorem d_T_question_9 : decode c_T_question 9 = .ok (.isub, 1) := by decide +kernel
theorem d_T_question_10 : decode c_T_question 10 = .ok (.i2l, 1) := by decide +kernel
theorem d_T_question_11 : decode c_T_question 11 = .ok (.invokestatic 42, 3) := by decide +kernel
theorem d_T_question_14 : decode c_T_question 14 = .ok (.ifCond .eq 19, 3) := by decide +kernel
theorem d_T_question_17 : decode c_T_question 17 = .ok (.iload_n 3, 1) := by decide +kernel
theorem d_T_question_18 : decode c_T_question 18 = .ok (.i2l, 1) := by decide +kernel
theorem d_T_question_19 : decode c_T_question 19 = .ok (.lconst 0, 1) := by decide +kernel
theorem d_T_question_20 : decode c_T_question 20 = .ok (.aload_n 0, 1) := by decide +kernel
theorem d_T_question_21 : decode c_T_question 21 = .ok (.getfield 99, 3) := by decide +kernel
theorem d_T_question_24 : decode c_T_question 24 = .ok (.iconst 1, 1) := by decide +kernel
theorem d_T_question_25 : decode c_T_question 25 = .ok (.isub, 1) := by decide +kernel
theorem d_T_question_26 : decode c_T_question 26 = .ok (.i2l, 1) := by decide +kernel
theorem d_T_question_27 : decode c_T_question 27 = .ok (.invokestatic 42, 3) := by decide +kernel
theorem d_T_question_30 : decode c_T_question 30 = .ok (.ifCond .ne 7, 3) := by decide +kernel
theorem d_T_question_33 : decode c_T_question 33 = .ok (.iconst 1, 1) := by decide +kernel
theorem d_T_question_34 : decode c_T_question 34 = .ok (.goto 33, 3) := by decide +kernel
theorem d_T_question_37 : decode c_T_question 37 = .ok (.iload_n 1, 1) := by decide +kernel
theorem d_T_question_38 : decode c_T_question 38 = .ok (.i2l, 1) := by decide +kernel
theorem d_T_question_39 : decode c_T_question 39 = .ok (.lconst 0, 1) := by decide +kernel
theorem d_T_question_40 : decode c_T_question 40 = .ok (.ldc2_w 102, 3) := by decide +kernel
theorem d_T_question_43 : decode c_T_question 43 = .ok (.invokestatic 42, 3) := by decide +kernel
theorem d_T_question_46 : decode c_T_question 46 = .ok (.ifCond .ne 7, 3) := by decide +kernel
theorem d_T_question_49 : decode c_T_question 49 = .ok (.iconst 2, 1) := by decide +kernel
theorem d_T_question_50 : decode c_T_question 50 = .ok (.goto 17, 3) := by decide +kernel
theorem d_T_question_53 : decode c_T_question 53 = .ok (.aload_n 0, 1) := by decide +kernel
theorem d_T_question_54 : decode c_T_question 54 = .ok (.getfield 99, 3) := by decide +kernel
theorem d_T_question_57 : decode c_T_question 57 = .ok (.bipush 16, 2) := by decide +kernel
theorem d_T_question_59 : decode c_T_question 59 = .ok (.if_icmp .ne 7, 3) := by decide +kernel
theorem d_T_question_62 : decode c_T_question 62 = .ok (.iconst 3, 1) := by decide +kernel
theorem d_T_question_63 : decode c_T_question 63 = .ok (.goto 4, 3) := by decide +kernel
theorem d_T_question_66 : decode c_T_question 66 = .ok (.iconst 0, 1) := by decide +kernel
theorem d_T_question_67 : decode c_T_question 67 = .ok (.putfield 39, 3) := by decide +kernel
theorem d_T_question_70 : decode c_T_question 70 = .ok (.aload_n 0, 1) := by decide +kernel
theorem d_T_question_71 : decode c_T_question 71 = .ok (.getfield 39, 3) := by decide +kernel
theorem d_T_question_74 : decode c_T_question 74 = .ok (.ifCond .le 5, 3) := by decide +kernel
theorem d_T_question_77 : decode c_T_question 77 = .ok (.iconst 0, 1) := by decide +kernel
theorem d_T_question_78 : decode c_T_question 78 = .ok (.ireturn, 1) := by decide +kernel
theorem d_T_question_79 : decode c_T_question 79 = .ok (.aload_n 0, 1) := by decide +kernel
theorem d_T_question_80 : decode c_T_question 80 = .ok (.getfield 23, 3) := by decide +kernel
theorem d_T_question_83 : decode c_T_question 83 = .ok (.aload_n 0, 1) := by decide +kernel
theorem d_T_question_84 : decode c_T_question 84 = .ok (.getfield 99, 3) := by decide +kernel
theorem d_T_question_87 : decode c_T_question 87 = .ok (.iconst (-1), 1) := by decide +kernel
theorem d_T_question_88 : decode c_T_question 88 = .ok (.iload_n 1, 1) := by decide +kernel
theorem d_T_question_89 : decode c_T_question 89 = .ok (.isub, 1) := by decide +kernel
theorem d_T_question_90 : decode c_T_question 90 = .ok (.iastore, 1) := by decide +kernel
theorem d_T_question_91 : decode c_T_question 91 = .ok (.aload_n 0, 1) := by decide +kernel
theorem d_T_question_92 : decode c_T_question 92 = .ok (.getfield 26, 3) := by decide +kernel
theorem d_T_question_95 : decode c_T_question 95 = .ok (.aload_n 0, 1) := by decide +kernel
theorem d_T_question_96 : decode c_T_question 96 = .ok (.getfield 99, 3) := by decide +kernel
theorem d_T_question_99 : decode c_T_question 99 = .ok (.iload_n 2, 1) := by decide +kernel
theorem d_T_question_100 : decode c_T_question 100 = .ok (.iastore, 1) := by decide +kernel
theorem d_T_question_101 : decode c_T_question 101 = .ok (.aload_n 0, 1) := by decide +kernel
theorem d_T_question_102 : decode c_T_question 102 = .ok (.getfield 29, 3) := by decide +kernel
theorem d_T_question_105 : decode c_T_question 105 = .ok (.aload_n 0, 1) := by decide +kernel
theorem d_T_question_106 : decode c_T_question 106 = .ok (.getfield 99, 3) := by decide +kernel
theorem d_T_question_109 : decode c_T_question 109 = .ok (.iload_n 3, 1) := by decide +kernel
theorem d_T_question_110 : decode c_T_question 110 = .ok (.iastore, 1) := by decide +kernel
theorem d_T_question_111 : decode c_T_question 111 = .ok (.aload_n 0, 1) := by decide +kernel
theorem d_T_question_112 : decode c_T_question 112 = .ok (.dup, 1) := by decide +kernel
theorem d_T_question_113 : decode c_T_question 113 = .ok (.getfield 99, 3) := by decide +kernel
theorem d_T_question_116 : decode c_T_question 116 = .ok (.iconst 1, 1) := by decide +kernel
theorem d_T_question_117 : decode c_T_question 117 = .ok (.iadd, 1) := by decide +kernel
theorem d_T_question_118 : decode c_T_question 118 = .ok (.putfield 99, 3) := by decide +kernel
theorem d_T_question_121 : decode c_T_question 121 = .ok (.aload_n 0, 1) := by decide +kernel
theorem d_T_question_122 : decode c_T_question 122 = .ok (.getfield 99, 3) := by decide +kernel
theorem d_T_question_125 : decode c_T_question 125 = .ok (.iconst 1, 1) := by decide +kernel
theorem d_T_question_126 : decode c_T_question 126 = .ok (.isub, 1) := by decide +kernel
theorem d_T_question_127 : decode c_T_question 127 = .ok (.ireturn, 1) := by decide +kernel
theorem d_T_ask_0 : decode c_T_ask 0 = .ok (.aload_n 0, 1) := by decide +kernel
theorem d_T_ask_1 : decode c_T_ask 1 = .ok (.iload_n 1, 1) := by decide +kernel
theorem d_T_ask_2 : decode c_T_ask 2 = .ok (.i2l, 1) := by decide +kernel
theorem d_T_ask_3 : decode c_T_ask 3 = .ok (.lconst 0, 1) := by decide +kernel
theorem d_T_ask_4 : decode c_T_ask 4 = .ok (.ldc2_w 104, 3) := by decide +kernel
theorem d_T_ask_7 : decode c_T_ask 7 = .ok (.invokestatic 42, 3) := by decide +kernel
theorem d_T_ask_10 : decode c_T_ask 10 = .ok (.ifCond .eq 15, 3) := by decide +kernel
theorem d_T_ask_13 : decode c_T_ask 13 = .ok (.iload_n 2, 1) := by decide +kernel
theorem d_T_ask_14 : decode c_T_ask 14 = .ok (.i2l, 1) := by decide +kernel
theorem d_T_ask_15 : decode c_T_ask 15 = .ok (.lconst 0, 1) := by decide +kernel
theorem d_T_ask_16 : decode c_T_ask 16 = .ok (.ldc2_w 104, 3) := by decide +kernel
theorem d_T_ask_19 : decode c_T_ask 19 = .ok (.invokestatic 42, 3) := by decide +kernel
theorem d_T_ask_22 : decode c_T_ask 22 = .ok (.ifCond .ne 7, 3) := by decide +kernel
theorem d_T_ask_25 : decode c_T_ask 25 = .ok (.iconst 1, 1) := by decide +kernel
theorem d_T_ask_26 : decode c_T_ask 26 = .ok (.goto 15, 3) := by decide +kernel
theorem d_T_ask_29 : decode c_T_ask 29 = .ok (.aload_n 0, 1) := by decide +kernel
theorem d_T_ask_30 : decode c_T_ask 30 = .ok (.getfield 99, 3) := by decide +kernel
theorem d_T_ask_33 : decode c_T_ask 33 = .ok (.ifCond .ne 7, 3) := by decide +kernel
theorem d_T_ask_36 : decode c_T_ask 36 = .ok (.iconst 2, 1) := by decide +kernel
theorem d_T_ask_37 : decode c_T_ask 37 = .ok (.goto 4, 3) := by decide +kernel
theorem d_T_ask_40 : decode c_T_ask 40 = .ok (.iconst 0, 1) := by decide +kernel
theorem d_T_ask_41 : decode c_T_ask 41 = .ok (.putfield 39, 3) := by decide +kernel
theorem d_T_ask_44 : decode c_T_ask 44 = .ok (.aload_n 0, 1) := by decide +kernel
theorem d_T_ask_45 : decode c_T_ask 45 = .ok (.getfield 39, 3) := by decide +kernel
theorem d_T_ask_48 : decode c_T_ask 48 = .ok (.ifCond .le 5, 3) := by decide +kernel
theorem d_T_ask_51 : decode c_T_ask 51 = .ok (.iconst 0, 1) := by decide +kernel
theorem d_T_ask_52 : decode c_T_ask 52 = .ok (.ireturn, 1) := by decide +kernel
theorem d_T_ask_53 : decode c_T_ask 53 = .ok (.aload_n 0, 1) := by decide +kernel
theorem d_T_ask_54 : decode c_T_ask 54 = .ok (.getfield 99, 3) := by decide +kernel
theorem d_T_ask_57 : decode c_T_ask 57 = .ok (.iconst 1, 1) := by decide +kernel
theorem d_T_ask_58 : decode c_T_ask 58 = .ok (.isub, 1) := by decide +kernel
theorem d_T_ask_59 : decode c_T_ask 59 = .ok (.istore_n 3, 1) := by decide +kernel
theorem d_T_ask_60 : decode c_T_ask 60 = .ok (.aload_n 0, 1) := by decide +kernel
theorem d_T_ask_61 : decode c_T_ask 61 = .ok (.getfield 23, 3) := by decide +kernel
theorem d_T_ask_64 : decode c_T_ask 64 = .ok (.iload_n 3, 1) := by decide +kernel
theorem d_T_ask_65 : decode c_T_ask 65 = .ok (.iaload, 1) := by decide +kernel
theorem d_T_ask_66 : decode c_T_ask 66 = .ok (.ifCond .ge 57, 3) := by decide +kernel
theorem d_T_ask_69 : decode c_T_ask 69 = .ok (.iconst (-1), 1) := by decide +kernel
theorem d_T_ask_70 : decode c_T_ask 70 = .ok (.aload_n 0, 1) := by decide +kernel
theorem d_T_ask_71 : decode c_T_ask 71 = .ok (.getfield 23, 3) := by decide +kernel
theorem d_T_ask_74 : decode c_T_ask 74 = .ok (.iload_n 3, 1) := by decide +kernel
theorem d_T_ask_75 : decode c_T_ask 75 = .ok (.iaload, 1) := by decide +kernel
theorem d_T_ask_76 : decode c_T_ask 76 = .ok (.isub, 1) := by decide +kernel
theorem d_T_ask_77 : decode c_T_ask 77 = .ok (.istore 4, 2) := by decide +kernel
theorem d_T_ask_79 : decode c_T_ask 79 = .ok (.iload_n 2, 1) := by decide +kernel
theorem d_T_ask_80 : decode c_T_ask 80 = .ok (.iload 4, 2) := by decide +kernel
theorem d_T_ask_82 : decode c_T_ask 82 = .ok (.ishr, 1) := by decide +kernel
theorem d_T_ask_83 : decode c_T_ask 83 = .ok (.iconst 1, 1) := by decide +kernel
theorem d_T_ask_84 : decode c_T_ask 84 = .ok (.iand, 1) := by decide +kernel
theorem d_T_ask_85 : decode c_T_ask 85 = .ok (.ifCond .ne 9, 3) := by decide +kernel
theorem d_T_ask_88 : decode c_T_ask 88 = .ok (.bipush (-2), 2) := by decide +kernel
theorem d_T_ask_90 : decode c_T_ask 90 = .ok (.iload 4, 2) := by decide +kernel
theorem d_T_ask_92 : decode c_T_ask 92 = .ok (.isub, 1) := by decide +kernel
theorem d_T_ask_93 : decode c_T_ask 93 = .ok (.ireturn, 1) := by decide +kernel
theorem d_T_ask_94 : decode c_T_ask 94 = .ok (.iload_n 1, 1) := by decide +kernel
theorem d_T_ask_95 : decode c_T_ask 95 = .ok (.iload 4, 2) := by decide +kernel
theorem d_T_ask_97 : decode c_T_ask 97 = .ok (.ishr, 1) := by decide +kernel
theorem d_T_ask_98 : decode c_T_ask 98 = .ok (.iconst 1, 1) := by decide +kernel
theorem d_T_ask_99 : decode c_T_ask 99 = .ok (.iand, 1) := by decide +kernel
theorem d_T_ask_100 : decode c_T_ask 100 = .ok (.iconst 1, 1) := by decide +kernel
theorem d_T_ask_101 : decode c_T_ask 101 = .ok (.if_icmp .ne 12, 3) := by decide +kernel
theorem d_T_ask_104 : decode c_T_ask 104 = .ok (.aload_n 0, 1) := by decide +kernel
theorem d_T_ask_105 : decode c_T_ask 105 = .ok (.getfield 29, 3) := by decide +kernel
theorem d_T_ask_108 : decode c_T_ask 108 = .ok (.iload_n 3, 1) := by decide +kernel
theorem d_T_ask_109 : decode c_T_ask 109 = .ok (.iaload, 1) := by decide +kernel
theorem d_T_ask_110 : decode c_T_ask 110 = .ok (.goto 9, 3) := by decide +kernel
theorem d_T_ask_113 : decode c_T_ask 113 = .ok (.aload_n 0, 1) := by decide +kernel
theorem d_T_ask_114 : decode c_T_ask 114 = .ok (.getfield 26, 3) := by decide +kernel
theorem d_T_ask_117 : decode c_T_ask 117 = .ok (.iload_n 3, 1) := by decide +kernel
theorem d_T_ask_118 : decode c_T_ask 118 = .ok (.iaload, 1) := by decide +kernel
theorem d_T_ask_119 : decode c_T_ask 119 = .ok (.istore_n 3, 1) := by decide +kernel
theorem d_T_ask_120 : decode c_T_ask 120 = .ok (.goto (-60), 3) := by decide +kernel
theorem d_T_ask_123 : decode c_T_ask 123 = .ok (.aload_n 0, 1) := by decide +kernel
theorem d_T_ask_124 : decode c_T_ask 124 = .ok (.getfield 23, 3) := by decide +kernel
theorem d_T_ask_127 : decode c_T_ask 127 = .ok (.iload_n 3, 1) := by decide +kernel
theorem d_T_ask_128 : decode c_T_ask 128 = .ok (.iaload, 1) := by decide +kernel
theorem d_T_ask_129 : decode c_T_ask 129 = .ok (.ireturn, 1) := by decide +kernel
theorem d_T_rule_0 : decode c_T_rule 0 = .ok (.iload_n 2, 1) := by decide +kernel
theorem d_T_rule_1 : decode c_T_rule 1 = .ok (.iload_n 1, 1) := by decide +kernel
theorem d_T_rule_2 : decode c_T_rule 2 = .ok (.if_icmp .lt 59, 3) := by decide +kernel
theorem d_T_rule_5 : decode c_T_rule 5 = .ok (.iload_n 3, 1) := by decide +kernel
theorem d_T_rule_6 : decode c_T_rule 6 = .ok (.i2l, 1) := by decide +kernel
theorem d_T_rule_7 : decode c_T_rule 7 = .ok (.lconst 0, 1) := by decide +kernel
theorem d_T_rule_8 : decode c_T_rule 8 = .ok (.ldc2_w 52, 3) := by decide +kernel
theorem d_T_rule_11 : decode c_T_rule 11 = .ok (.invokestatic 42, 3) := by decide +kernel
theorem d_T_rule_14 : decode c_T_rule 14 = .ok (.ifCond .eq 47, 3) := by decide +kernel
theorem d_T_rule_17 : decode c_T_rule 17 = .ok (.iload 4, 2) := by decide +kernel
theorem d_T_rule_19 : decode c_T_rule 19 = .ok (.i2l, 1) := by decide +kernel
theorem d_T_rule_20 : decode c_T_rule 20 = .ok (.iload_n 3, 1) := by decide +kernel
theorem d_T_rule_21 : decode c_T_rule 21 = .ok (.i2l, 1) := by decide +kernel
theorem d_T_rule_22 : decode c_T_rule 22 = .ok (.ldc2_w 52, 3) := by decide +kernel
theorem d_T_rule_25 : decode c_T_rule 25 = .ok (.invokestatic 42, 3) := by decide +kernel
theorem d_T_rule_28 : decode c_T_rule 28 = .ok (.ifCond .eq 33, 3) := by decide +kernel
theorem d_T_rule_31 : decode c_T_rule 31 = .ok (.iload 5, 2) := by decide +kernel
theorem d_T_rule_33 : decode c_T_rule 33 = .ok (.i2l, 1) := by decide +kernel
theorem d_T_rule_34 : decode c_T_rule 34 = .ok (.ldc2_w 106, 3) := by decide +kernel
theorem d_T_rule_37 : decode c_T_rule 37 = .ok (.ldc2_w 108, 3) := by decide +kernel
theorem d_T_rule_40 : decode c_T_rule 40 = .ok (.invokestatic 42, 3) := by decide +kernel
theorem d_T_rule_43 : decode c_T_rule 43 = .ok (.ifCond .eq 18, 3) := by decide +kernel
theorem d_T_rule_46 : decode c_T_rule 46 = .ok (.iload 6, 2) := by decide +kernel
theorem d_T_rule_48 : decode c_T_rule 48 = .ok (.i2l, 1) := by decide +kernel
theorem d_T_rule_49 : decode c_T_rule 49 = .ok (.iload 5, 2) := by decide +kernel
theorem d_T_rule_51 : decode c_T_rule 51 = .ok (.i2l, 1) := by decide +kernel
theorem d_T_rule_52 : decode c_T_rule 52 = .ok (.ldc2_w 108, 3) := by decide +kernel
theorem d_T_rule_55 : decode c_T_rule 55 = .ok (.invokestatic 42, 3) := by decide +kernel
theorem d_T_rule_58 : decode c_T_rule 58 = .ok (.ifCond .ne 7, 3) := by decide +kernel
theorem d_T_rule_61 : decode c_T_rule 61 = .ok (.iconst 1, 1) := by decide +kernel
theorem d_T_rule_62 : decode c_T_rule 62 = .ok (.goto 4, 3) := by decide +kernel
theorem d_T_rule_65 : decode c_T_rule 65 = .ok (.iconst 0, 1) := by decide +kernel
theorem d_T_rule_66 : decode c_T_rule 66 = .ok (.istore 7, 2) := by decide +kernel
theorem d_T_rule_68 : decode c_T_rule 68 = .ok (.aload_n 0, 1) := by decide +kernel
theorem d_T_rule_69 : decode c_T_rule 69 = .ok (.aload_n 0, 1) := by decide +kernel
theorem d_T_rule_70 : decode c_T_rule 70 = .ok (.iload_n 1, 1) := by decide +kernel
theorem d_T_rule_71 : decode c_T_rule 71 = .ok (.i2l, 1) := by decide +kernel
theorem d_T_rule_72 : decode c_T_rule 72 = .ok (.invokevirtual 46, 3) := by decide +kernel
theorem d_T_rule_75 : decode c_T_rule 75 = .ok (.ifCond .eq 12, 3) := by decide +kernel
theorem d_T_rule_78 : decode c_T_rule 78 = .ok (.aload_n 0, 1) := by decide +kernel
theorem d_T_rule_79 : decode c_T_rule 79 = .ok (.iload_n 2, 1) := by decide +kernel
theorem d_T_rule_80 : decode c_T_rule 80 = .ok (.i2l, 1) := by decide +kernel
theorem d_T_rule_81 : decode c_T_rule 81 = .ok (.invokevirtual 46, 3) := by decide +kernel
theorem d_T_rule_84 : decode c_T_rule 84 = .ok (.ifCond .ne 7, 3) := by decide +kernel
theorem d_T_rule_87 : decode c_T_rule 87 = .ok (.iconst 1, 1) := by decide +kernel
theorem d_T_rule_88 : decode c_T_rule 88 = .ok (.goto 26, 3) := by decide +kernel
theorem d_T_rule_91 : decode c_T_rule 91 = .ok (.iload 7, 2) := by decide +kernel
theorem d_T_rule_93 : decode c_T_rule 93 = .ok (.ifCond .eq 7, 3) := by decide +kernel
theorem d_T_rule_96 : decode c_T_rule 96 = .ok (.iconst 2, 1) := by decide +kernel
theorem d_T_rule_97 : decode c_T_rule 97 = .ok (.goto 17, 3) := by decide +kernel
theorem d_T_rule_100 : decode c_T_rule 100 = .ok (.aload_n 0, 1) := by decide +kernel
theorem d_T_rule_101 : decode c_T_rule 101 = .ok (.getfield 110, 3) := by decide +kernel
theorem d_T_rule_104 : decode c_T_rule 104 = .ok (.bipush 8, 2) := by decide +kernel
theorem d_T_rule_106 : decode c_T_rule 106 = .ok (.if_icmp .ne 7, 3) := by decide +kernel
theorem d_T_rule_109 : decode c_T_rule 109 = .ok (.iconst 3, 1) := by decide +kernel
theorem d_T_rule_110 : decode c_T_rule 110 = .ok (.goto 4, 3) := by decide +kernel
theorem d_T_rule_113 : decode c_T_rule 113 = .ok (.iconst 0, 1) := by decide +kernel
theorem d_T_rule_114 : decode c_T_rule 114 = .ok (.putfield 39, 3) := by decide +kernel
theorem d_T_rule_117 : decode c_T_rule 117 = .ok (.aload_n 0, 1) := by decide +kernel
theorem d_T_rule_118 : decode c_T_rule 118 = .ok (.getfield 39, 3) := by decide +kernel
theorem d_T_rule_121 : decode c_T_rule 121 = .ok (.ifCond .le 5, 3) := by decide +kernel
theorem d_T_rule_124 : decode c_T_rule 124 = .ok (.iconst 0, 1) := by decide +kernel
theorem d_T_rule_125 : decode c_T_rule 125 = .ok (.ireturn, 1) := by decide +kernel
theorem d_T_rule_126 : decode c_T_rule 126 = .ok (.aload_n 0, 1) := by decide +kernel
theorem d_T_rule_127 : decode c_T_rule 127 = .ok (.getfield 32, 3) := by decide +kernel
theorem d_T_rule_130 : decode c_T_rule 130 = .ok (.bipush 6, 2) := by decide +kernel
theorem d_T_rule_132 : decode c_T_rule 132 = .ok (.aload_n 0, 1) := by decide +kernel
theorem d_T_rule_133 : decode c_T_rule 133 = .ok (.getfield 110, 3) := by decide +kernel
theorem d_T_rule_136 : decode c_T_rule 136 = .ok (.imul, 1) := by decide +kernel
theorem d_T_rule_137 : decode c_T_rule 137 = .ok (.iload_n 1, 1) := by decide +kernel
theorem d_T_rule_138 : decode c_T_rule 138 = .ok (.iastore, 1) := by decide +kernel
theorem d_T_rule_139 : decode c_T_rule 139 = .ok (.aload_n 0, 1) := by decide +kernel
theorem d_T_rule_140 : decode c_T_rule 140 = .ok (.getfield 32, 3) := by decide +kernel
theorem d_T_rule_143 : decode c_T_rule 143 = .ok (.bipush 6, 2) := by decide +kernel
theorem d_T_rule_145 : decode c_T_rule 145 = .ok (.aload_n 0, 1) := by decide +kernel
theorem d_T_rule_146 : decode c_T_rule 146 = .ok (.getfield 110, 3) := by decide +kernel
theorem d_T_rule_149 : decode c_T_rule 149 = .ok (.imul, 1) := by decide +kernel
theorem d_T_rule_150 : decode c_T_rule 150 = .ok (.iconst 1, 1) := by decide +kernel
theorem d_T_rule_151 : decode c_T_rule 151 = .ok (.iadd, 1) := by decide +kernel
theorem d_T_rule_152 : decode c_T_rule 152 = .ok (.iload_n 2, 1) := by decide +kernel
theorem d_T_rule_153 : decode c_T_rule 153 = .ok (.iastore, 1) := by decide +kernel
theorem d_T_rule_154 : decode c_T_rule 154 = .ok (.aload_n 0, 1) := by decide +kernel
theorem d_T_rule_155 : decode c_T_rule 155 = .ok (.getfield 32, 3) := by decide +kernel
theorem d_T_rule_158 : decode c_T_rule 158 = .ok (.bipush 6, 2) := by decide +kernel
theorem d_T_rule_160 : decode c_T_rule 160 = .ok (.aload_n 0, 1) := by decide +kernel
theorem d_T_rule_161 : decode c_T_rule 161 = .ok (.getfield 110, 3) := by decide +kernel
theorem d_T_rule_164 : decode c_T_rule 164 = .ok (.imul, 1) := by decide +kernel
theorem d_T_rule_165 : decode c_T_rule 165 = .ok (.iconst 2, 1) := by decide +kernel
theorem d_T_rule_166 : decode c_T_rule 166 = .ok (.iadd, 1) := by decide +kernel
theorem d_T_rule_167 : decode c_T_rule 167 = .ok (.iload_n 3, 1) := by decide +kernel
theorem d_T_rule_168 : decode c_T_rule 168 = .ok (.iastore, 1) := by decide +kernel
theorem d_T_rule_169 : decode c_T_rule 169 = .ok (.aload_n 0, 1) := by decide +kernel
theorem d_T_rule_170 : decode c_T_rule 170 = .ok (.getfield 32, 3) := by decide +kernel
theorem d_T_rule_173 : decode c_T_rule 173 = .ok (.bipush 6, 2) := by decide +kernel
theorem d_T_rule_175 : decode c_T_rule 175 = .ok (.aload_n 0, 1) := by decide +kernel
theorem d_T_rule_176 : decode c_T_rule 176 = .ok (.getfield 110, 3) := by decide +kernel
theorem d_T_rule_179 : decode c_T_rule 179 = .ok (.imul, 1) := by decide +kernel
theorem d_T_rule_180 : decode c_T_rule 180 = .ok (.iconst 3, 1) := by decide +kernel
theorem d_T_rule_181 : decode c_T_rule 181 = .ok (.iadd, 1) := by decide +kernel
theorem d_T_rule_182 : decode c_T_rule 182 = .ok (.iload 4, 2) := by decide +kernel
theorem d_T_rule_184 : decode c_T_rule 184 = .ok (.iastore, 1) := by decide +kernel
theorem d_T_rule_185 : decode c_T_rule 185 = .ok (.aload_n 0, 1) := by decide +kernel
theorem d_T_rule_186 : decode c_T_rule 186 = .ok (.getfield 32, 3) := by decide +kernel
theorem d_T_rule_189 : decode c_T_rule 189 = .ok (.bipush 6, 2) := by decide +kernel
theorem d_T_rule_191 : decode c_T_rule 191 = .ok (.aload_n 0, 1) := by decide +kernel
theorem d_T_rule_192 : decode c_T_rule 192 = .ok (.getfield 110, 3) := by decide +kernel
theorem d_T_rule_195 : decode c_T_rule 195 = .ok (.imul, 1) := by decide +kernel
theorem d_T_rule_196 : decode c_T_rule 196 = .ok (.iconst 4, 1) := by decide +kernel
theorem d_T_rule_197 : decode c_T_rule 197 = .ok (.iadd, 1) := by decide +kernel
theorem d_T_rule_198 : decode c_T_rule 198 = .ok (.iload 5, 2) := by decide +kernel
theorem d_T_rule_200 : decode c_T_rule 200 = .ok (.iastore, 1) := by decide +kernel
theorem d_T_rule_201 : decode c_T_rule 201 = .ok (.aload_n 0, 1) := by decide +kernel
theorem d_T_rule_202 : decode c_T_rule 202 = .ok (.getfield 32, 3) := by decide +kernel
theorem d_T_rule_205 : decode c_T_rule 205 = .ok (.bipush 6, 2) := by decide +kernel
theorem d_T_rule_207 : decode c_T_rule 207 = .ok (.aload_n 0, 1) := by decide +kernel
theorem d_T_rule_208 : decode c_T_rule 208 = .ok (.getfield 110, 3) := by decide +kernel
theorem d_T_rule_211 : decode c_T_rule 211 = .ok (.imul, 1) := by decide +kernel
theorem d_T_rule_212 : decode c_T_rule 212 = .ok (.iconst 5, 1) := by decide +kernel
theorem d_T_rule_213 : decode c_T_rule 213 = .ok (.iadd, 1) := by decide +kernel
theorem d_T_rule_214 : decode c_T_rule 214 = .ok (.iload 6, 2) := by decide +kernel
theorem d_T_rule_216 : decode c_T_rule 216 = .ok (.iastore, 1) := by decide +kernel
theorem d_T_rule_217 : decode c_T_rule 217 = .ok (.aload_n 0, 1) := by decide +kernel
theorem d_T_rule_218 : decode c_T_rule 218 = .ok (.dup, 1) := by decide +kernel
theorem d_T_rule_219 : decode c_T_rule 219 = .ok (.getfield 110, 3) := by decide +kernel
theorem d_T_rule_222 : decode c_T_rule 222 = .ok (.iconst 1, 1) := by decide +kernel
theorem d_T_rule_223 : decode c_T_rule 223 = .ok (.iadd, 1) := by decide +kernel
theorem d_T_rule_224 : decode c_T_rule 224 = .ok (.putfield 110, 3) := by decide +kernel
theorem d_T_rule_227 : decode c_T_rule 227 = .ok (.aload_n 0, 1) := by decide +kernel
theorem d_T_rule_228 : decode c_T_rule 228 = .ok (.getfield 110, 3) := by decide +kernel
theorem d_T_rule_231 : decode c_T_rule 231 = .ok (.ireturn, 1) := by decide +kernel
theorem d_T_age_0 : decode c_T_age 0 = .ok (.sipush (-20000), 3) := by decide +kernel
theorem d_T_age_3 : decode c_T_age 3 = .ok (.istore_n 2, 1) := by decide +kernel
theorem d_T_age_4 : decode c_T_age 4 = .ok (.sipush 20000, 3) := by decide +kernel
theorem d_T_age_7 : decode c_T_age 7 = .ok (.istore_n 3, 1) := by decide +kernel
theorem d_T_age_8 : decode c_T_age 8 = .ok (.iconst 0, 1) := by decide +kernel
theorem d_T_age_9 : decode c_T_age 9 = .ok (.istore 4, 2) := by decide +kernel
theorem d_T_age_11 : decode c_T_age 11 = .ok (.iconst 0, 1) := by decide +kernel
theorem d_T_age_12 : decode c_T_age 12 = .ok (.istore 5, 2) := by decide +kernel
theorem d_T_age_14 : decode c_T_age 14 = .ok (.iload 5, 2) := by decide +kernel
theorem d_T_age_16 : decode c_T_age 16 = .ok (.aload_n 0, 1) := by decide +kernel
theorem d_T_age_17 : decode c_T_age 17 = .ok (.getfield 110, 3) := by decide +kernel
theorem d_T_age_20 : decode c_T_age 20 = .ok (.if_icmp .ge 87, 3) := by decide +kernel
theorem d_T_age_23 : decode c_T_age 23 = .ok (.aload_n 0, 1) := by decide +kernel
theorem d_T_age_24 : decode c_T_age 24 = .ok (.iload 5, 2) := by decide +kernel
theorem d_T_age_26 : decode c_T_age 26 = .ok (.invokevirtual 113, 3) := by decide +kernel
theorem d_T_age_29 : decode c_T_age 29 = .ok (.ifCond .eq 72, 3) := by decide +kernel
theorem d_T_age_32 : decode c_T_age 32 = .ok (.iconst 1, 1) := by decide +kernel
theorem d_T_age_33 : decode c_T_age 33 = .ok (.istore 4, 2) := by decide +kernel
theorem d_T_age_35 : decode c_T_age 35 = .ok (.aload_n 0, 1) := by decide +kernel
theorem d_T_age_36 : decode c_T_age 36 = .ok (.getfield 32, 3) := by decide +kernel
theorem d_T_age_39 : decode c_T_age 39 = .ok (.bipush 6, 2) := by decide +kernel
theorem d_T_age_41 : decode c_T_age 41 = .ok (.iload 5, 2) := by decide +kernel
theorem d_T_age_43 : decode c_T_age 43 = .ok (.imul, 1) := by decide +kernel
theorem d_T_age_44 : decode c_T_age 44 = .ok (.iconst 4, 1) := by decide +kernel
theorem d_T_age_45 : decode c_T_age 45 = .ok (.iadd, 1) := by decide +kernel
theorem d_T_age_46 : decode c_T_age 46 = .ok (.iaload, 1) := by decide +kernel
theorem d_T_age_47 : decode c_T_age 47 = .ok (.iload_n 2, 1) := by decide +kernel
theorem d_T_age_48 : decode c_T_age 48 = .ok (.if_icmp .le 18, 3) := by decide +kernel
theorem d_T_age_51 : decode c_T_age 51 = .ok (.aload_n 0, 1) := by decide +kernel
theorem d_T_age_52 : decode c_T_age 52 = .ok (.getfield 32, 3) := by decide +kernel
theorem d_T_age_55 : decode c_T_age 55 = .ok (.bipush 6, 2) := by decide +kernel
theorem d_T_age_57 : decode c_T_age 57 = .ok (.iload 5, 2) := by decide +kernel
theorem d_T_age_59 : decode c_T_age 59 = .ok (.imul, 1) := by decide +kernel
theorem d_T_age_60 : decode c_T_age 60 = .ok (.iconst 4, 1) := by decide +kernel
theorem d_T_age_61 : decode c_T_age 61 = .ok (.iadd, 1) := by decide +kernel
theorem d_T_age_62 : decode c_T_age 62 = .ok (.iaload, 1) := by decide +kernel
theorem d_T_age_63 : decode c_T_age 63 = .ok (.goto 4, 3) := by decide +kernel
theorem d_T_age_66 : decode c_T_age 66 = .ok (.iload_n 2, 1) := by decide +kernel
theorem d_T_age_67 : decode c_T_age 67 = .ok (.istore_n 2, 1) := by decide +kernel
theorem d_T_age_68 : decode c_T_age 68 = .ok (.aload_n 0, 1) := by decide +kernel
theorem d_T_age_69 : decode c_T_age 69 = .ok (.getfield 32, 3) := by decide +kernel
theorem d_T_age_72 : decode c_T_age 72 = .ok (.bipush 6, 2) := by decide +kernel
theorem d_T_age_74 : decode c_T_age 74 = .ok (.iload 5, 2) := by decide +kernel
theorem d_T_age_76 : decode c_T_age 76 = .ok (.imul, 1) := by decide +kernel
theorem d_T_age_77 : decode c_T_age 77 = .ok (.iconst 5, 1) := by decide +kernel
theorem d_T_age_78 : decode c_T_age 78 = .ok (.iadd, 1) := by decide +kernel
theorem d_T_age_79 : decode c_T_age 79 = .ok (.iaload, 1) := by decide +kernel
theorem d_T_age_80 : decode c_T_age 80 = .ok (.iload_n 3, 1) := by decide +kernel
theorem d_T_age_81 : decode c_T_age 81 = .ok (.if_icmp .ge 18, 3) := by decide +kernel
theorem d_T_age_84 : decode c_T_age 84 = .ok (.aload_n 0, 1) := by decide +kernel
theorem d_T_age_85 : decode c_T_age 85 = .ok (.getfield 32, 3) := by decide +kernel
theorem d_T_age_88 : decode c_T_age 88 = .ok (.bipush 6, 2) := by decide +kernel
theorem d_T_age_90 : decode c_T_age 90 = .ok (.iload 5, 2) := by decide +kernel
theorem d_T_age_92 : decode c_T_age 92 = .ok (.imul, 1) := by decide +kernel
theorem d_T_age_93 : decode c_T_age 93 = .ok (.iconst 5, 1) := by decide +kernel
theorem d_T_age_94 : decode c_T_age 94 = .ok (.iadd, 1) := by decide +kernel
theorem d_T_age_95 : decode c_T_age 95 = .ok (.iaload, 1) := by decide +kernel
theorem d_T_age_96 : decode c_T_age 96 = .ok (.goto 4, 3) := by decide +kernel
theorem d_T_age_99 : decode c_T_age 99 = .ok (.iload_n 3, 1) := by decide +kernel
theorem d_T_age_100 : decode c_T_age 100 = .ok (.istore_n 3, 1) := by decide +kernel
theorem d_T_age_101 : decode c_T_age 101 = .ok (.iinc 5 1, 3) := by decide +kernel
theorem d_T_age_104 : decode c_T_age 104 = .ok (.goto (-90), 3) := by decide +kernel
theorem d_T_age_107 : decode c_T_age 107 = .ok (.aload_n 0, 1) := by decide +kernel
theorem d_T_age_108 : decode c_T_age 108 = .ok (.iload_n 1, 1) := by decide +kernel
theorem d_T_age_109 : decode c_T_age 109 = .ok (.i2l, 1) := by decide +kernel
theorem d_T_age_110 : decode c_T_age 110 = .ok (.lconst 0, 1) := by decide +kernel
theorem d_T_age_111 : decode c_T_age 111 = .ok (.lconst 1, 1) := by decide +kernel
theorem d_T_age_112 : decode c_T_age 112 = .ok (.invokestatic 42, 3) := by decide +kernel
theorem d_T_age_115 : decode c_T_age 115 = .ok (.ifCond .ne 7, 3) := by decide +kernel
theorem d_T_age_118 : decode c_T_age 118 = .ok (.iconst 1, 1) := by decide +kernel
theorem d_T_age_119 : decode c_T_age 119 = .ok (.goto 18, 3) := by decide +kernel
theorem d_T_age_122 : decode c_T_age 122 = .ok (.iload 4, 2) := by decide +kernel
theorem d_T_age_124 : decode c_T_age 124 = .ok (.ifCond .eq 8, 3) := by decide +kernel
theorem d_T_age_127 : decode c_T_age 127 = .ok (.iload_n 2, 1) := by decide +kernel
theorem d_T_age_128 : decode c_T_age 128 = .ok (.iload_n 3, 1) := by decide +kernel
theorem d_T_age_129 : decode c_T_age 129 = .ok (.if_icmp .le 7, 3) := by decide +kernel
theorem d_T_age_132 : decode c_T_age 132 = .ok (.iconst 2, 1) := by decide +kernel
theorem d_T_age_133 : decode c_T_age 133 = .ok (.goto 4, 3) := by decide +kernel
theorem d_T_age_136 : decode c_T_age 136 = .ok (.iconst 0, 1) := by decide +kernel
theorem d_T_age_137 : decode c_T_age 137 = .ok (.putfield 39, 3) := by decide +kernel
theorem d_T_age_140 : decode c_T_age 140 = .ok (.aload_n 0, 1) := by decide +kernel
theorem d_T_age_141 : decode c_T_age 141 = .ok (.getfield 39, 3) := by decide +kernel
theorem d_T_age_144 : decode c_T_age 144 = .ok (.ifCond .le 7, 3) := by decide +kernel
theorem d_T_age_147 : decode c_T_age 147 = .ok (.iconst 0, 1) := by decide +kernel
theorem d_T_age_148 : decode c_T_age 148 = .ok (.goto 12, 3) := by decide +kernel
theorem d_T_age_151 : decode c_T_age 151 = .ok (.iload_n 1, 1) := by decide +kernel
theorem d_T_age_152 : decode c_T_age 152 = .ok (.ifCond .ne 7, 3) := by decide +kernel
theorem d_T_age_155 : decode c_T_age 155 = .ok (.iload_n 2, 1) := by decide +kernel
theorem d_T_age_156 : decode c_T_age 156 = .ok (.goto 4, 3) := by decide +kernel
theorem d_T_age_159 : decode c_T_age 159 = .ok (.iload_n 3, 1) := by decide +kernel
theorem d_T_age_160 : decode c_T_age 160 = .ok (.ireturn, 1) := by decide +kernel
theorem d_T_holds_0 : decode c_T_holds 0 = .ok (.iconst 1, 1) := by decide +kernel
theorem d_T_holds_1 : decode c_T_holds 1 = .ok (.istore_n 2, 1) := by decide +kernel
theorem d_T_holds_2 : decode c_T_holds 2 = .ok (.aload_n 0, 1) := by decide +kernel
theorem d_T_holds_3 : decode c_T_holds 3 = .ok (.getfield 32, 3) := by decide +kernel
theorem d_T_holds_6 : decode c_T_holds 6 = .ok (.bipush 6, 2) := by decide +kernel
theorem d_T_holds_8 : decode c_T_holds 8 = .ok (.iload_n 1, 1) := by decide +kernel
theorem d_T_holds_9 : decode c_T_holds 9 = .ok (.imul, 1) := by decide +kernel
theorem d_T_holds_10 : decode c_T_holds 10 = .ok (.iaload, 1) := by decide +kernel
theorem d_T_holds_11 : decode c_T_holds 11 = .ok (.istore_n 3, 1) := by decide +kernel
theorem d_T_holds_12 : decode c_T_holds 12 = .ok (.iload_n 3, 1) := by decide +kernel
theorem d_T_holds_13 : decode c_T_holds 13 = .ok (.aload_n 0, 1) := by decide +kernel
theorem d_T_holds_14 : decode c_T_holds 14 = .ok (.getfield 32, 3) := by decide +kernel
theorem d_T_holds_17 : decode c_T_holds 17 = .ok (.bipush 6, 2) := by decide +kernel
theorem d_T_holds_19 : decode c_T_holds 19 = .ok (.iload_n 1, 1) := by decide +kernel
theorem d_T_holds_20 : decode c_T_holds 20 = .ok (.imul, 1) := by decide +kernel
theorem d_T_holds_21 : decode c_T_holds 21 = .ok (.iconst 1, 1) := by decide +kernel
theorem d_T_holds_22 : decode c_T_holds 22 = .ok (.iadd, 1) := by decide +kernel
theorem d_T_holds_23 : decode c_T_holds 23 = .ok (.iaload, 1) := by decide +kernel
theorem d_T_holds_24 : decode c_T_holds 24 = .ok (.if_icmp .gt 65, 3) := by decide +kernel
theorem d_T_holds_27 : decode c_T_holds 27 = .ok (.iload_n 2, 1) := by decide +kernel
theorem d_T_holds_28 : decode c_T_holds 28 = .ok (.ifCond .eq 53, 3) := by decide +kernel
theorem d_T_holds_31 : decode c_T_holds 31 = .ok (.aload_n 0, 1) := by decide +kernel
theorem d_T_holds_32 : decode c_T_holds 32 = .ok (.getfield 7, 3) := by decide +kernel
theorem d_T_holds_35 : decode c_T_holds 35 = .ok (.iload_n 3, 1) := by decide +kernel
theorem d_T_holds_36 : decode c_T_holds 36 = .ok (.iaload, 1) := by decide +kernel
theorem d_T_holds_37 : decode c_T_holds 37 = .ok (.ifCond .lt 44, 3) := by decide +kernel
theorem d_T_holds_40 : decode c_T_holds 40 = .ok (.aload_n 0, 1) := by decide +kernel
theorem d_T_holds_41 : decode c_T_holds 41 = .ok (.getfield 7, 3) := by decide +kernel
theorem d_T_holds_44 : decode c_T_holds 44 = .ok (.iload_n 3, 1) := by decide +kernel
theorem d_T_holds_45 : decode c_T_holds 45 = .ok (.iaload, 1) := by decide +kernel
theorem d_T_holds_46 : decode c_T_holds 46 = .ok (.i2l, 1) := by decide +kernel
theorem d_T_holds_47 : decode c_T_holds 47 = .ok (.aload_n 0, 1) := by decide +kernel
theorem d_T_holds_48 : decode c_T_holds 48 = .ok (.getfield 32, 3) := by decide +kernel
theorem d_T_holds_51 : decode c_T_holds 51 = .ok (.bipush 6, 2) := by decide +kernel
theorem d_T_holds_53 : decode c_T_holds 53 = .ok (.iload_n 1, 1) := by decide +kernel
theorem d_T_holds_54 : decode c_T_holds 54 = .ok (.imul, 1) := by decide +kernel
theorem d_T_holds_55 : decode c_T_holds 55 = .ok (.iconst 2, 1) := by decide +kernel
theorem d_T_holds_56 : decode c_T_holds 56 = .ok (.iadd, 1) := by decide +kernel
theorem d_T_holds_57 : decode c_T_holds 57 = .ok (.iaload, 1) := by decide +kernel
theorem d_T_holds_58 : decode c_T_holds 58 = .ok (.i2l, 1) := by decide +kernel
theorem d_T_holds_59 : decode c_T_holds 59 = .ok (.aload_n 0, 1) := by decide +kernel
theorem d_T_holds_60 : decode c_T_holds 60 = .ok (.getfield 32, 3) := by decide +kernel
theorem d_T_holds_63 : decode c_T_holds 63 = .ok (.bipush 6, 2) := by decide +kernel
theorem d_T_holds_65 : decode c_T_holds 65 = .ok (.iload_n 1, 1) := by decide +kernel
theorem d_T_holds_66 : decode c_T_holds 66 = .ok (.imul, 1) := by decide +kernel
theorem d_T_holds_67 : decode c_T_holds 67 = .ok (.iconst 3, 1) := by decide +kernel
theorem d_T_holds_68 : decode c_T_holds 68 = .ok (.iadd, 1) := by decide +kernel
theorem d_T_holds_69 : decode c_T_holds 69 = .ok (.iaload, 1) := by decide +kernel
theorem d_T_holds_70 : decode c_T_holds 70 = .ok (.i2l, 1) := by decide +kernel
theorem d_T_holds_71 : decode c_T_holds 71 = .ok (.invokestatic 42, 3) := by decide +kernel
theorem d_T_holds_74 : decode c_T_holds 74 = .ok (.ifCond .eq 7, 3) := by decide +kernel
theorem d_T_holds_77 : decode c_T_holds 77 = .ok (.iconst 1, 1) := by decide +kernel
theorem d_T_holds_78 : decode c_T_holds 78 = .ok (.goto 4, 3) := by decide +kernel
theorem d_T_holds_81 : decode c_T_holds 81 = .ok (.iconst 0, 1) := by decide +kernel
theorem d_T_holds_82 : decode c_T_holds 82 = .ok (.istore_n 2, 1) := by decide +kernel
theorem d_T_holds_83 : decode c_T_holds 83 = .ok (.iinc 3 1, 3) := by decide +kernel
theorem d_T_holds_86 : decode c_T_holds 86 = .ok (.goto (-74), 3) := by decide +kernel
theorem d_T_holds_89 : decode c_T_holds 89 = .ok (.iload_n 2, 1) := by decide +kernel
theorem d_T_holds_90 : decode c_T_holds 90 = .ok (.ireturn, 1) := by decide +kernel
