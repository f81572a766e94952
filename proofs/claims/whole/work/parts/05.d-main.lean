theorem d_M_init_0 : decode c_M_init 0 = .ok (.aload_n 0, 1) := by decide +kernel
theorem d_M_init_1 : decode c_M_init 1 = .ok (.invokespecial 1, 3) := by decide +kernel
theorem d_M_init_4 : decode c_M_init 4 = .ok (.aload_n 0, 1) := by decide +kernel
theorem d_M_init_5 : decode c_M_init 5 = .ok (.new 7, 3) := by decide +kernel
theorem d_M_init_8 : decode c_M_init 8 = .ok (.dup, 1) := by decide +kernel
theorem d_M_init_9 : decode c_M_init 9 = .ok (.invokespecial 9, 3) := by decide +kernel
theorem d_M_init_12 : decode c_M_init 12 = .ok (.putfield 10, 3) := by decide +kernel
theorem d_M_init_15 : decode c_M_init 15 = .ok (.aload_n 0, 1) := by decide +kernel
theorem d_M_init_16 : decode c_M_init 16 = .ok (.new 7, 3) := by decide +kernel
theorem d_M_init_19 : decode c_M_init 19 = .ok (.dup, 1) := by decide +kernel
theorem d_M_init_20 : decode c_M_init 20 = .ok (.invokespecial 9, 3) := by decide +kernel
theorem d_M_init_23 : decode c_M_init 23 = .ok (.putfield 16, 3) := by decide +kernel
theorem d_M_init_26 : decode c_M_init 26 = .ok (.aload_n 0, 1) := by decide +kernel
theorem d_M_init_27 : decode c_M_init 27 = .ok (.new 7, 3) := by decide +kernel
theorem d_M_init_30 : decode c_M_init 30 = .ok (.dup, 1) := by decide +kernel
theorem d_M_init_31 : decode c_M_init 31 = .ok (.invokespecial 9, 3) := by decide +kernel
theorem d_M_init_34 : decode c_M_init 34 = .ok (.putfield 19, 3) := by decide +kernel
theorem d_M_init_37 : decode c_M_init 37 = .ok (.aload_n 0, 1) := by decide +kernel
theorem d_M_init_38 : decode c_M_init 38 = .ok (.new 22, 3) := by decide +kernel
theorem d_M_init_41 : decode c_M_init 41 = .ok (.dup, 1) := by decide +kernel
theorem d_M_init_42 : decode c_M_init 42 = .ok (.invokespecial 24, 3) := by decide +kernel
theorem d_M_init_45 : decode c_M_init 45 = .ok (.putfield 25, 3) := by decide +kernel
theorem d_M_init_48 : decode c_M_init 48 = .ok (.aload_n 0, 1) := by decide +kernel
theorem d_M_init_49 : decode c_M_init 49 = .ok (.new 29, 3) := by decide +kernel
theorem d_M_init_52 : decode c_M_init 52 = .ok (.dup, 1) := by decide +kernel
theorem d_M_init_53 : decode c_M_init 53 = .ok (.iconst 4, 1) := by decide +kernel
theorem d_M_init_54 : decode c_M_init 54 = .ok (.bipush 64, 2) := by decide +kernel
theorem d_M_init_56 : decode c_M_init 56 = .ok (.iload_n 1, 1) := by decide +kernel
theorem d_M_init_57 : decode c_M_init 57 = .ok (.invokestatic 31, 3) := by decide +kernel
theorem d_M_init_60 : decode c_M_init 60 = .ok (.invokestatic 37, 3) := by decide +kernel
theorem d_M_init_63 : decode c_M_init 63 = .ok (.invokespecial 40, 3) := by decide +kernel
theorem d_M_init_66 : decode c_M_init 66 = .ok (.putfield 43, 3) := by decide +kernel
theorem d_M_init_69 : decode c_M_init 69 = .ok (.return_, 1) := by decide +kernel
theorem d_M_forget_0 : decode c_M_forget 0 = .ok (.aload_n 0, 1) := by decide +kernel
theorem d_M_forget_1 : decode c_M_forget 1 = .ok (.getfield 43, 3) := by decide +kernel
theorem d_M_forget_4 : decode c_M_forget 4 = .ok (.invokevirtual 124, 3) := by decide +kernel
theorem d_M_forget_7 : decode c_M_forget 7 = .ok (.ireturn, 1) := by decide +kernel
theorem d_M_depth_0 : decode c_M_depth 0 = .ok (.aload_n 0, 1) := by decide +kernel
theorem d_M_depth_1 : decode c_M_depth 1 = .ok (.getfield 43, 3) := by decide +kernel
theorem d_M_depth_4 : decode c_M_depth 4 = .ok (.iload_n 1, 1) := by decide +kernel
theorem d_M_depth_5 : decode c_M_depth 5 = .ok (.invokevirtual 47, 3) := by decide +kernel
theorem d_M_depth_8 : decode c_M_depth 8 = .ok (.ifCond .ne 13, 3) := by decide +kernel
theorem d_M_depth_11 : decode c_M_depth 11 = .ok (.new 51, 3) := by decide +kernel
theorem d_M_depth_14 : decode c_M_depth 14 = .ok (.dup, 1) := by decide +kernel
theorem d_M_depth_15 : decode c_M_depth 15 = .ok (.ldc 53, 2) := by decide +kernel
theorem d_M_depth_17 : decode c_M_depth 17 = .ok (.invokespecial 55, 3) := by decide +kernel
theorem d_M_depth_20 : decode c_M_depth 20 = .ok (.athrow, 1) := by decide +kernel
theorem d_M_depth_21 : decode c_M_depth 21 = .ok (.iload_n 2, 1) := by decide +kernel
theorem d_M_depth_22 : decode c_M_depth 22 = .ok (.iconst (-1), 1) := by decide +kernel
theorem d_M_depth_23 : decode c_M_depth 23 = .ok (.sipush 255, 3) := by decide +kernel
theorem d_M_depth_26 : decode c_M_depth 26 = .ok (.invokestatic 58, 3) := by decide +kernel
theorem d_M_depth_29 : decode c_M_depth 29 = .ok (.ifCond .ne 13, 3) := by decide +kernel
theorem d_M_depth_32 : decode c_M_depth 32 = .ok (.new 62, 3) := by decide +kernel
theorem d_M_depth_35 : decode c_M_depth 35 = .ok (.dup, 1) := by decide +kernel
theorem d_M_depth_36 : decode c_M_depth 36 = .ok (.ldc 64, 2) := by decide +kernel
theorem d_M_depth_38 : decode c_M_depth 38 = .ok (.invokespecial 66, 3) := by decide +kernel
theorem d_M_depth_41 : decode c_M_depth 41 = .ok (.athrow, 1) := by decide +kernel
theorem d_M_depth_42 : decode c_M_depth 42 = .ok (.aload_n 0, 1) := by decide +kernel
theorem d_M_depth_43 : decode c_M_depth 43 = .ok (.getfield 43, 3) := by decide +kernel
theorem d_M_depth_46 : decode c_M_depth 46 = .ok (.iload_n 1, 1) := by decide +kernel
theorem d_M_depth_47 : decode c_M_depth 47 = .ok (.iload_n 2, 1) := by decide +kernel
theorem d_M_depth_48 : decode c_M_depth 48 = .ok (.invokevirtual 67, 3) := by decide +kernel
theorem d_M_depth_51 : decode c_M_depth 51 = .ok (.return_, 1) := by decide +kernel
theorem d_M_isWithin_0 : decode c_M_isWithin 0 = .ok (.iload_n 0, 1) := by decide +kernel
theorem d_M_isWithin_1 : decode c_M_isWithin 1 = .ok (.iload_n 1, 1) := by decide +kernel
theorem d_M_isWithin_2 : decode c_M_isWithin 2 = .ok (.if_icmp .lt 12, 3) := by decide +kernel
theorem d_M_isWithin_5 : decode c_M_isWithin 5 = .ok (.iload_n 0, 1) := by decide +kernel
theorem d_M_isWithin_6 : decode c_M_isWithin 6 = .ok (.iload_n 2, 1) := by decide +kernel
theorem d_M_isWithin_7 : decode c_M_isWithin 7 = .ok (.if_icmp .gt 7, 3) := by decide +kernel
theorem d_M_isWithin_10 : decode c_M_isWithin 10 = .ok (.iconst 1, 1) := by decide +kernel
theorem d_M_isWithin_11 : decode c_M_isWithin 11 = .ok (.goto 4, 3) := by decide +kernel
theorem d_M_isWithin_14 : decode c_M_isWithin 14 = .ok (.iconst 0, 1) := by decide +kernel
theorem d_M_isWithin_15 : decode c_M_isWithin 15 = .ok (.ireturn, 1) := by decide +kernel
theorem d_M_place_0 : decode c_M_place 0 = .ok (.aload_n 0, 1) := by decide +kernel
theorem d_M_place_1 : decode c_M_place 1 = .ok (.getfield 43, 3) := by decide +kernel
theorem d_M_place_4 : decode c_M_place 4 = .ok (.iload_n 1, 1) := by decide +kernel
theorem d_M_place_5 : decode c_M_place 5 = .ok (.invokevirtual 47, 3) := by decide +kernel
theorem d_M_place_8 : decode c_M_place 8 = .ok (.ifCond .ne 13, 3) := by decide +kernel
theorem d_M_place_11 : decode c_M_place 11 = .ok (.new 51, 3) := by decide +kernel
theorem d_M_place_14 : decode c_M_place 14 = .ok (.dup, 1) := by decide +kernel
theorem d_M_place_15 : decode c_M_place 15 = .ok (.ldc 53, 2) := by decide +kernel
theorem d_M_place_17 : decode c_M_place 17 = .ok (.invokespecial 55, 3) := by decide +kernel
theorem d_M_place_20 : decode c_M_place 20 = .ok (.athrow, 1) := by decide +kernel
theorem d_M_place_21 : decode c_M_place 21 = .ok (.iload_n 2, 1) := by decide +kernel
theorem d_M_place_22 : decode c_M_place 22 = .ok (.iconst 0, 1) := by decide +kernel
theorem d_M_place_23 : decode c_M_place 23 = .ok (.iconst 1, 1) := by decide +kernel
theorem d_M_place_24 : decode c_M_place 24 = .ok (.invokestatic 58, 3) := by decide +kernel
theorem d_M_place_27 : decode c_M_place 27 = .ok (.ifCond .ne 13, 3) := by decide +kernel
theorem d_M_place_30 : decode c_M_place 30 = .ok (.new 51, 3) := by decide +kernel
theorem d_M_place_33 : decode c_M_place 33 = .ok (.dup, 1) := by decide +kernel
theorem d_M_place_34 : decode c_M_place 34 = .ok (.ldc 71, 2) := by decide +kernel
theorem d_M_place_36 : decode c_M_place 36 = .ok (.invokespecial 55, 3) := by decide +kernel
theorem d_M_place_39 : decode c_M_place 39 = .ok (.athrow, 1) := by decide +kernel
theorem d_M_place_40 : decode c_M_place 40 = .ok (.iload_n 2, 1) := by decide +kernel
theorem d_M_place_41 : decode c_M_place 41 = .ok (.ifCond .ne 12, 3) := by decide +kernel
theorem d_M_place_44 : decode c_M_place 44 = .ok (.aload_n 0, 1) := by decide +kernel
theorem d_M_place_45 : decode c_M_place 45 = .ok (.getfield 43, 3) := by decide +kernel
theorem d_M_place_48 : decode c_M_place 48 = .ok (.iload_n 1, 1) := by decide +kernel
theorem d_M_place_49 : decode c_M_place 49 = .ok (.invokevirtual 73, 3) := by decide +kernel
theorem d_M_place_52 : decode c_M_place 52 = .ok (.ireturn, 1) := by decide +kernel
theorem d_M_place_53 : decode c_M_place 53 = .ok (.aload_n 0, 1) := by decide +kernel
theorem d_M_place_54 : decode c_M_place 54 = .ok (.getfield 43, 3) := by decide +kernel
theorem d_M_place_57 : decode c_M_place 57 = .ok (.iload_n 1, 1) := by decide +kernel
theorem d_M_place_58 : decode c_M_place 58 = .ok (.invokevirtual 77, 3) := by decide +kernel
theorem d_M_place_61 : decode c_M_place 61 = .ok (.ifCond .eq 7, 3) := by decide +kernel
theorem d_M_place_64 : decode c_M_place 64 = .ok (.iconst 1, 1) := by decide +kernel
theorem d_M_place_65 : decode c_M_place 65 = .ok (.goto 4, 3) := by decide +kernel
theorem d_M_place_68 : decode c_M_place 68 = .ok (.iconst 0, 1) := by decide +kernel
theorem d_M_place_69 : decode c_M_place 69 = .ok (.ireturn, 1) := by decide +kernel
theorem d_M_mirror_0 : decode c_M_mirror 0 = .ok (.aload_n 0, 1) := by decide +kernel
theorem d_M_mirror_1 : decode c_M_mirror 1 = .ok (.invokevirtual 80, 3) := by decide +kernel
theorem d_M_mirror_4 : decode c_M_mirror 4 = .ok (.aload_n 0, 1) := by decide +kernel
theorem d_M_mirror_5 : decode c_M_mirror 5 = .ok (.getfield 25, 3) := by decide +kernel
theorem d_M_mirror_8 : decode c_M_mirror 8 = .ok (.getfield 83, 3) := by decide +kernel
theorem d_M_mirror_11 : decode c_M_mirror 11 = .ok (.ifCond .ne 13, 3) := by decide +kernel
theorem d_M_mirror_14 : decode c_M_mirror 14 = .ok (.new 87, 3) := by decide +kernel
theorem d_M_mirror_17 : decode c_M_mirror 17 = .ok (.dup, 1) := by decide +kernel
theorem d_M_mirror_18 : decode c_M_mirror 18 = .ok (.ldc 89, 2) := by decide +kernel
theorem d_M_mirror_20 : decode c_M_mirror 20 = .ok (.invokespecial 91, 3) := by decide +kernel
theorem d_M_mirror_23 : decode c_M_mirror 23 = .ok (.athrow, 1) := by decide +kernel
theorem d_M_mirror_24 : decode c_M_mirror 24 = .ok (.iload_n 1, 1) := by decide +kernel
theorem d_M_mirror_25 : decode c_M_mirror 25 = .ok (.iconst 0, 1) := by decide +kernel
theorem d_M_mirror_26 : decode c_M_mirror 26 = .ok (.iconst 2, 1) := by decide +kernel
theorem d_M_mirror_27 : decode c_M_mirror 27 = .ok (.invokestatic 58, 3) := by decide +kernel
theorem d_M_mirror_30 : decode c_M_mirror 30 = .ok (.ifCond .ne 13, 3) := by decide +kernel
theorem d_M_mirror_33 : decode c_M_mirror 33 = .ok (.new 51, 3) := by decide +kernel
theorem d_M_mirror_36 : decode c_M_mirror 36 = .ok (.dup, 1) := by decide +kernel
theorem d_M_mirror_37 : decode c_M_mirror 37 = .ok (.ldc 71, 2) := by decide +kernel
theorem d_M_mirror_39 : decode c_M_mirror 39 = .ok (.invokespecial 55, 3) := by decide +kernel
theorem d_M_mirror_42 : decode c_M_mirror 42 = .ok (.athrow, 1) := by decide +kernel
theorem d_M_mirror_43 : decode c_M_mirror 43 = .ok (.iload_n 1, 1) := by decide +kernel
theorem d_M_mirror_44 : decode c_M_mirror 44 = .ok (.ifCond .ne 12, 3) := by decide +kernel
theorem d_M_mirror_47 : decode c_M_mirror 47 = .ok (.aload_n 0, 1) := by decide +kernel
theorem d_M_mirror_48 : decode c_M_mirror 48 = .ok (.getfield 25, 3) := by decide +kernel
theorem d_M_mirror_51 : decode c_M_mirror 51 = .ok (.getfield 92, 3) := by decide +kernel
theorem d_M_mirror_54 : decode c_M_mirror 54 = .ok (.i2l, 1) := by decide +kernel
theorem d_M_mirror_55 : decode c_M_mirror 55 = .ok (.lreturn, 1) := by decide +kernel
theorem d_M_mirror_56 : decode c_M_mirror 56 = .ok (.iload_n 1, 1) := by decide +kernel
theorem d_M_mirror_57 : decode c_M_mirror 57 = .ok (.iconst 1, 1) := by decide +kernel
theorem d_M_mirror_58 : decode c_M_mirror 58 = .ok (.if_icmp .ne 14, 3) := by decide +kernel
theorem d_M_mirror_61 : decode c_M_mirror 61 = .ok (.aload_n 0, 1) := by decide +kernel
theorem d_M_mirror_62 : decode c_M_mirror 62 = .ok (.getfield 25, 3) := by decide +kernel
theorem d_M_mirror_65 : decode c_M_mirror 65 = .ok (.getfield 96, 3) := by decide +kernel
theorem d_M_mirror_68 : decode c_M_mirror 68 = .ok (.i2l, 1) := by decide +kernel
theorem d_M_mirror_69 : decode c_M_mirror 69 = .ok (.goto 11, 3) := by decide +kernel
theorem d_M_mirror_72 : decode c_M_mirror 72 = .ok (.aload_n 0, 1) := by decide +kernel
theorem d_M_mirror_73 : decode c_M_mirror 73 = .ok (.getfield 25, 3) := by decide +kernel
theorem d_M_mirror_76 : decode c_M_mirror 76 = .ok (.getfield 99, 3) := by decide +kernel
theorem d_M_mirror_79 : decode c_M_mirror 79 = .ok (.i2l, 1) := by decide +kernel
theorem d_M_mirror_80 : decode c_M_mirror 80 = .ok (.lreturn, 1) := by decide +kernel
theorem d_M_findMirror_0 : decode c_M_findMirror 0 = .ok (.iconst 1, 1) := by decide +kernel
theorem d_M_findMirror_1 : decode c_M_findMirror 1 = .ok (.aload_n 0, 1) := by decide +kernel
theorem d_M_findMirror_2 : decode c_M_findMirror 2 = .ok (.getfield 43, 3) := by decide +kernel
theorem d_M_findMirror_5 : decode c_M_findMirror 5 = .ok (.invokevirtual 102, 3) := by decide +kernel
theorem d_M_findMirror_8 : decode c_M_findMirror 8 = .ok (.iconst 4, 1) := by decide +kernel
theorem d_M_findMirror_9 : decode c_M_findMirror 9 = .ok (.idiv, 1) := by decide +kernel
theorem d_M_findMirror_10 : decode c_M_findMirror 10 = .ok (.invokestatic 37, 3) := by decide +kernel
theorem d_M_findMirror_13 : decode c_M_findMirror 13 = .ok (.istore_n 1, 1) := by decide +kernel
theorem d_M_findMirror_14 : decode c_M_findMirror 14 = .ok (.aload_n 0, 1) := by decide +kernel
theorem d_M_findMirror_15 : decode c_M_findMirror 15 = .ok (.getfield 25, 3) := by decide +kernel
theorem d_M_findMirror_18 : decode c_M_findMirror 18 = .ok (.invokevirtual 223, 3) := by decide +kernel
theorem d_M_findMirror_21 : decode c_M_findMirror 21 = .ok (.iconst 0, 1) := by decide +kernel
theorem d_M_findMirror_22 : decode c_M_findMirror 22 = .ok (.istore_n 2, 1) := by decide +kernel
theorem d_M_findMirror_23 : decode c_M_findMirror 23 = .ok (.iload_n 2, 1) := by decide +kernel
theorem d_M_findMirror_24 : decode c_M_findMirror 24 = .ok (.aload_n 0, 1) := by decide +kernel
theorem d_M_findMirror_25 : decode c_M_findMirror 25 = .ok (.getfield 43, 3) := by decide +kernel
theorem d_M_findMirror_28 : decode c_M_findMirror 28 = .ok (.invokevirtual 116, 3) := by decide +kernel
theorem d_M_findMirror_31 : decode c_M_findMirror 31 = .ok (.if_icmp .gt 41, 3) := by decide +kernel
theorem d_M_findMirror_34 : decode c_M_findMirror 34 = .ok (.aload_n 0, 1) := by decide +kernel
theorem d_M_findMirror_35 : decode c_M_findMirror 35 = .ok (.getfield 43, 3) := by decide +kernel
theorem d_M_findMirror_38 : decode c_M_findMirror 38 = .ok (.iload_n 2, 1) := by decide +kernel
theorem d_M_findMirror_39 : decode c_M_findMirror 39 = .ok (.invokevirtual 226, 3) := by decide +kernel
theorem d_M_findMirror_42 : decode c_M_findMirror 42 = .ok (.istore_n 3, 1) := by decide +kernel
theorem d_M_findMirror_43 : decode c_M_findMirror 43 = .ok (.iload_n 3, 1) := by decide +kernel
theorem d_M_findMirror_44 : decode c_M_findMirror 44 = .ok (.iload_n 1, 1) := by decide +kernel
theorem d_M_findMirror_45 : decode c_M_findMirror 45 = .ok (.if_icmp .lt 21, 3) := by decide +kernel
theorem d_M_findMirror_48 : decode c_M_findMirror 48 = .ok (.aload_n 0, 1) := by decide +kernel
theorem d_M_findMirror_49 : decode c_M_findMirror 49 = .ok (.getfield 25, 3) := by decide +kernel
theorem d_M_findMirror_52 : decode c_M_findMirror 52 = .ok (.iload_n 2, 1) := by decide +kernel
theorem d_M_findMirror_53 : decode c_M_findMirror 53 = .ok (.iconst (-1), 1) := by decide +kernel
theorem d_M_findMirror_54 : decode c_M_findMirror 54 = .ok (.aload_n 0, 1) := by decide +kernel
theorem d_M_findMirror_55 : decode c_M_findMirror 55 = .ok (.getfield 43, 3) := by decide +kernel
theorem d_M_findMirror_58 : decode c_M_findMirror 58 = .ok (.iload_n 2, 1) := by decide +kernel
theorem d_M_findMirror_59 : decode c_M_findMirror 59 = .ok (.invokevirtual 229, 3) := by decide +kernel
theorem d_M_findMirror_62 : decode c_M_findMirror 62 = .ok (.iload_n 3, 1) := by decide +kernel
theorem d_M_findMirror_63 : decode c_M_findMirror 63 = .ok (.invokevirtual 232, 3) := by decide +kernel
theorem d_M_findMirror_66 : decode c_M_findMirror 66 = .ok (.iinc 2 1, 3) := by decide +kernel
theorem d_M_findMirror_69 : decode c_M_findMirror 69 = .ok (.goto (-46), 3) := by decide +kernel
theorem d_M_findMirror_72 : decode c_M_findMirror 72 = .ok (.return_, 1) := by decide +kernel
theorem d_M_sum_0 : decode c_M_sum 0 = .ok (.iload_n 1, 1) := by decide +kernel
theorem d_M_sum_1 : decode c_M_sum 1 = .ok (.iconst 1, 1) := by decide +kernel
theorem d_M_sum_2 : decode c_M_sum 2 = .ok (.aload_n 0, 1) := by decide +kernel
theorem d_M_sum_3 : decode c_M_sum 3 = .ok (.getfield 43, 3) := by decide +kernel
theorem d_M_sum_6 : decode c_M_sum 6 = .ok (.invokevirtual 102, 3) := by decide +kernel
theorem d_M_sum_9 : decode c_M_sum 9 = .ok (.iconst 1, 1) := by decide +kernel
theorem d_M_sum_10 : decode c_M_sum 10 = .ok (.isub, 1) := by decide +kernel
theorem d_M_sum_11 : decode c_M_sum 11 = .ok (.invokestatic 58, 3) := by decide +kernel
theorem d_M_sum_14 : decode c_M_sum 14 = .ok (.ifCond .ne 13, 3) := by decide +kernel
theorem d_M_sum_17 : decode c_M_sum 17 = .ok (.new 62, 3) := by decide +kernel
theorem d_M_sum_20 : decode c_M_sum 20 = .ok (.dup, 1) := by decide +kernel
theorem d_M_sum_21 : decode c_M_sum 21 = .ok (.ldc 106, 2) := by decide +kernel
theorem d_M_sum_23 : decode c_M_sum 23 = .ok (.invokespecial 66, 3) := by decide +kernel
theorem d_M_sum_26 : decode c_M_sum 26 = .ok (.athrow, 1) := by decide +kernel
theorem d_M_sum_27 : decode c_M_sum 27 = .ok (.aload_n 0, 1) := by decide +kernel
theorem d_M_sum_28 : decode c_M_sum 28 = .ok (.getfield 43, 3) := by decide +kernel
theorem d_M_sum_31 : decode c_M_sum 31 = .ok (.iload_n 1, 1) := by decide +kernel
theorem d_M_sum_32 : decode c_M_sum 32 = .ok (.invokevirtual 108, 3) := by decide +kernel
theorem d_M_sum_35 : decode c_M_sum 35 = .ok (.lreturn, 1) := by decide +kernel
theorem d_M_repeat__0 : decode c_M_repeat_ 0 = .ok (.aload_n 0, 1) := by decide +kernel
theorem d_M_repeat__1 : decode c_M_repeat_ 1 = .ok (.getfield 43, 3) := by decide +kernel
theorem d_M_repeat__4 : decode c_M_repeat_ 4 = .ok (.invokevirtual 102, 3) := by decide +kernel
theorem d_M_repeat__7 : decode c_M_repeat_ 7 = .ok (.iconst 1, 1) := by decide +kernel
theorem d_M_repeat__8 : decode c_M_repeat_ 8 = .ok (.isub, 1) := by decide +kernel
theorem d_M_repeat__9 : decode c_M_repeat_ 9 = .ok (.istore_n 3, 1) := by decide +kernel
theorem d_M_repeat__10 : decode c_M_repeat_ 10 = .ok (.iload_n 1, 1) := by decide +kernel
theorem d_M_repeat__11 : decode c_M_repeat_ 11 = .ok (.iconst 1, 1) := by decide +kernel
theorem d_M_repeat__12 : decode c_M_repeat_ 12 = .ok (.iload_n 3, 1) := by decide +kernel
theorem d_M_repeat__13 : decode c_M_repeat_ 13 = .ok (.invokestatic 58, 3) := by decide +kernel
theorem d_M_repeat__16 : decode c_M_repeat_ 16 = .ok (.ifCond .eq 12, 3) := by decide +kernel
theorem d_M_repeat__19 : decode c_M_repeat_ 19 = .ok (.iload_n 2, 1) := by decide +kernel
theorem d_M_repeat__20 : decode c_M_repeat_ 20 = .ok (.iload_n 1, 1) := by decide +kernel
theorem d_M_repeat__21 : decode c_M_repeat_ 21 = .ok (.iload_n 3, 1) := by decide +kernel
theorem d_M_repeat__22 : decode c_M_repeat_ 22 = .ok (.invokestatic 58, 3) := by decide +kernel
theorem d_M_repeat__25 : decode c_M_repeat_ 25 = .ok (.ifCond .ne 13, 3) := by decide +kernel
theorem d_M_repeat__28 : decode c_M_repeat_ 28 = .ok (.new 62, 3) := by decide +kernel
theorem d_M_repeat__31 : decode c_M_repeat_ 31 = .ok (.dup, 1) := by decide +kernel
theorem d_M_repeat__32 : decode c_M_repeat_ 32 = .ok (.ldc 112, 2) := by decide +kernel
theorem d_M_repeat__34 : decode c_M_repeat_ 34 = .ok (.invokespecial 66, 3) := by decide +kernel
theorem d_M_repeat__37 : decode c_M_repeat_ 37 = .ok (.athrow, 1) := by decide +kernel
theorem d_M_repeat__38 : decode c_M_repeat_ 38 = .ok (.iload_n 1, 1) := by decide +kernel
theorem d_M_repeat__39 : decode c_M_repeat_ 39 = .ok (.istore 4, 2) := by decide +kernel
theorem d_M_repeat__41 : decode c_M_repeat_ 41 = .ok (.aload_n 0, 1) := by decide +kernel
theorem d_M_repeat__42 : decode c_M_repeat_ 42 = .ok (.getfield 43, 3) := by decide +kernel
theorem d_M_repeat__45 : decode c_M_repeat_ 45 = .ok (.iload_n 1, 1) := by decide +kernel
theorem d_M_repeat__46 : decode c_M_repeat_ 46 = .ok (.invokevirtual 108, 3) := by decide +kernel
theorem d_M_repeat__49 : decode c_M_repeat_ 49 = .ok (.lstore 5, 2) := by decide +kernel
theorem d_M_repeat__51 : decode c_M_repeat_ 51 = .ok (.iload_n 1, 1) := by decide +kernel
theorem d_M_repeat__52 : decode c_M_repeat_ 52 = .ok (.iconst 1, 1) := by decide +kernel
theorem d_M_repeat__53 : decode c_M_repeat_ 53 = .ok (.iadd, 1) := by decide +kernel
theorem d_M_repeat__54 : decode c_M_repeat_ 54 = .ok (.istore 7, 2) := by decide +kernel
theorem d_M_repeat__56 : decode c_M_repeat_ 56 = .ok (.iload 7, 2) := by decide +kernel
theorem d_M_repeat__58 : decode c_M_repeat_ 58 = .ok (.iload_n 2, 1) := by decide +kernel
theorem d_M_repeat__59 : decode c_M_repeat_ 59 = .ok (.if_icmp .gt 36, 3) := by decide +kernel
theorem d_M_repeat__62 : decode c_M_repeat_ 62 = .ok (.aload_n 0, 1) := by decide +kernel
theorem d_M_repeat__63 : decode c_M_repeat_ 63 = .ok (.getfield 43, 3) := by decide +kernel
theorem d_M_repeat__66 : decode c_M_repeat_ 66 = .ok (.iload 7, 2) := by decide +kernel
theorem d_M_repeat__68 : decode c_M_repeat_ 68 = .ok (.invokevirtual 108, 3) := by decide +kernel
theorem d_M_repeat__71 : decode c_M_repeat_ 71 = .ok (.lstore 8, 2) := by decide +kernel
theorem d_M_repeat__73 : decode c_M_repeat_ 73 = .ok (.lload 8, 2) := by decide +kernel
theorem d_M_repeat__75 : decode c_M_repeat_ 75 = .ok (.lload 5, 2) := by decide +kernel
theorem d_M_repeat__77 : decode c_M_repeat_ 77 = .ok (.lcmp, 1) := by decide +kernel
theorem d_M_repeat__78 : decode c_M_repeat_ 78 = .ok (.ifCond .le 11, 3) := by decide +kernel
theorem d_M_repeat__81 : decode c_M_repeat_ 81 = .ok (.iload 7, 2) := by decide +kernel
theorem d_M_repeat__83 : decode c_M_repeat_ 83 = .ok (.istore 4, 2) := by decide +kernel
theorem d_M_repeat__85 : decode c_M_repeat_ 85 = .ok (.lload 8, 2) := by decide +kernel
theorem d_M_repeat__87 : decode c_M_repeat_ 87 = .ok (.lstore 5, 2) := by decide +kernel
theorem d_M_repeat__89 : decode c_M_repeat_ 89 = .ok (.iinc 7 1, 3) := by decide +kernel
theorem d_M_repeat__92 : decode c_M_repeat_ 92 = .ok (.goto (-36), 3) := by decide +kernel
theorem d_M_repeat__95 : decode c_M_repeat_ 95 = .ok (.iload 4, 2) := by decide +kernel
theorem d_M_repeat__97 : decode c_M_repeat_ 97 = .ok (.ireturn, 1) := by decide +kernel
theorem d_M_fill_0 : decode c_M_fill 0 = .ok (.iload_n 1, 1) := by decide +kernel
theorem d_M_fill_1 : decode c_M_fill 1 = .ok (.iconst 0, 1) := by decide +kernel
theorem d_M_fill_2 : decode c_M_fill 2 = .ok (.aload_n 0, 1) := by decide +kernel
theorem d_M_fill_3 : decode c_M_fill 3 = .ok (.getfield 43, 3) := by decide +kernel
theorem d_M_fill_6 : decode c_M_fill 6 = .ok (.invokevirtual 102, 3) := by decide +kernel
theorem d_M_fill_9 : decode c_M_fill 9 = .ok (.iconst 1, 1) := by decide +kernel
theorem d_M_fill_10 : decode c_M_fill 10 = .ok (.isub, 1) := by decide +kernel
theorem d_M_fill_11 : decode c_M_fill 11 = .ok (.invokestatic 58, 3) := by decide +kernel
theorem d_M_fill_14 : decode c_M_fill 14 = .ok (.ifCond .ne 13, 3) := by decide +kernel
theorem d_M_fill_17 : decode c_M_fill 17 = .ok (.new 62, 3) := by decide +kernel
theorem d_M_fill_20 : decode c_M_fill 20 = .ok (.dup, 1) := by decide +kernel
theorem d_M_fill_21 : decode c_M_fill 21 = .ok (.ldc 114, 2) := by decide +kernel
theorem d_M_fill_23 : decode c_M_fill 23 = .ok (.invokespecial 66, 3) := by decide +kernel
theorem d_M_fill_26 : decode c_M_fill 26 = .ok (.athrow, 1) := by decide +kernel
theorem d_M_fill_27 : decode c_M_fill 27 = .ok (.iload_n 2, 1) := by decide +kernel
theorem d_M_fill_28 : decode c_M_fill 28 = .ok (.iconst (-1), 1) := by decide +kernel
theorem d_M_fill_29 : decode c_M_fill 29 = .ok (.aload_n 0, 1) := by decide +kernel
theorem d_M_fill_30 : decode c_M_fill 30 = .ok (.getfield 43, 3) := by decide +kernel
theorem d_M_fill_33 : decode c_M_fill 33 = .ok (.invokevirtual 116, 3) := by decide +kernel
theorem d_M_fill_36 : decode c_M_fill 36 = .ok (.invokestatic 58, 3) := by decide +kernel
theorem d_M_fill_39 : decode c_M_fill 39 = .ok (.ifCond .ne 13, 3) := by decide +kernel
theorem d_M_fill_42 : decode c_M_fill 42 = .ok (.new 62, 3) := by decide +kernel
theorem d_M_fill_45 : decode c_M_fill 45 = .ok (.dup, 1) := by decide +kernel
theorem d_M_fill_46 : decode c_M_fill 46 = .ok (.ldc 119, 2) := by decide +kernel
theorem d_M_fill_48 : decode c_M_fill 48 = .ok (.invokespecial 66, 3) := by decide +kernel
theorem d_M_fill_51 : decode c_M_fill 51 = .ok (.athrow, 1) := by decide +kernel
theorem d_M_fill_52 : decode c_M_fill 52 = .ok (.aload_n 0, 1) := by decide +kernel
theorem d_M_fill_53 : decode c_M_fill 53 = .ok (.getfield 43, 3) := by decide +kernel
theorem d_M_fill_56 : decode c_M_fill 56 = .ok (.iload_n 1, 1) := by decide +kernel
theorem d_M_fill_57 : decode c_M_fill 57 = .ok (.iload_n 2, 1) := by decide +kernel
theorem d_M_fill_58 : decode c_M_fill 58 = .ok (.invokevirtual 121, 3) := by decide +kernel
theorem d_M_fill_61 : decode c_M_fill 61 = .ok (.ireturn, 1) := by decide +kernel
theorem d_M_shape_0 : decode c_M_shape 0 = .ok (.iload_n 1, 1) := by decide +kernel
theorem d_M_shape_1 : decode c_M_shape 1 = .ok (.iconst 2, 1) := by decide +kernel
theorem d_M_shape_2 : decode c_M_shape 2 = .ok (.bipush 16, 2) := by decide +kernel
theorem d_M_shape_4 : decode c_M_shape 4 = .ok (.invokestatic 58, 3) := by decide +kernel
theorem d_M_shape_7 : decode c_M_shape 7 = .ok (.ifCond .ne 13, 3) := by decide +kernel
theorem d_M_shape_10 : decode c_M_shape 10 = .ok (.new 62, 3) := by decide +kernel
theorem d_M_shape_13 : decode c_M_shape 13 = .ok (.dup, 1) := by decide +kernel
theorem d_M_shape_14 : decode c_M_shape 14 = .ok (.ldc 127, 2) := by decide +kernel
theorem d_M_shape_16 : decode c_M_shape 16 = .ok (.invokespecial 66, 3) := by decide +kernel
theorem d_M_shape_19 : decode c_M_shape 19 = .ok (.athrow, 1) := by decide +kernel
theorem d_M_shape_20 : decode c_M_shape 20 = .ok (.aload_n 0, 1) := by decide +kernel
theorem d_M_shape_21 : decode c_M_shape 21 = .ok (.getfield 10, 3) := by decide +kernel
theorem d_M_shape_24 : decode c_M_shape 24 = .ok (.invokevirtual 129, 3) := by decide +kernel
theorem d_M_shape_27 : decode c_M_shape 27 = .ok (.bipush 8, 2) := by decide +kernel
theorem d_M_shape_29 : decode c_M_shape 29 = .ok (.if_icmp .lt 13, 3) := by decide +kernel
theorem d_M_shape_32 : decode c_M_shape 32 = .ok (.new 87, 3) := by decide +kernel
theorem d_M_shape_35 : decode c_M_shape 35 = .ok (.dup, 1) := by decide +kernel
theorem d_M_shape_36 : decode c_M_shape 36 = .ok (.ldc 130, 2) := by decide +kernel
theorem d_M_shape_38 : decode c_M_shape 38 = .ok (.invokespecial 91, 3) := by decide +kernel
theorem d_M_shape_41 : decode c_M_shape 41 = .ok (.athrow, 1) := by decide +kernel
theorem d_M_shape_42 : decode c_M_shape 42 = .ok (.aload_n 0, 1) := by decide +kernel
theorem d_M_shape_43 : decode c_M_shape 43 = .ok (.getfield 10, 3) := by decide +kernel
theorem d_M_shape_46 : decode c_M_shape 46 = .ok (.new 132, 3) := by decide +kernel
theorem d_M_shape_49 : decode c_M_shape 49 = .ok (.dup, 1) := by decide +kernel
theorem d_M_shape_50 : decode c_M_shape 50 = .ok (.iload_n 1, 1) := by decide +kernel
theorem d_M_shape_51 : decode c_M_shape 51 = .ok (.invokespecial 134, 3) := by decide +kernel
theorem d_M_shape_54 : decode c_M_shape 54 = .ok (.invokevirtual 135, 3) := by decide +kernel
theorem d_M_shape_57 : decode c_M_shape 57 = .ok (.pop, 1) := by decide +kernel
theorem d_M_shape_58 : decode c_M_shape 58 = .ok (.aload_n 0, 1) := by decide +kernel
theorem d_M_shape_59 : decode c_M_shape 59 = .ok (.getfield 10, 3) := by decide +kernel
theorem d_M_shape_62 : decode c_M_shape 62 = .ok (.invokevirtual 129, 3) := by decide +kernel
theorem d_M_shape_65 : decode c_M_shape 65 = .ok (.iconst 1, 1) := by decide +kernel
theorem d_M_shape_66 : decode c_M_shape 66 = .ok (.isub, 1) := by decide +kernel
theorem d_M_shape_67 : decode c_M_shape 67 = .ok (.ireturn, 1) := by decide +kernel
theorem d_M_carve_0 : decode c_M_carve 0 = .ok (.iload_n 1, 1) := by decide +kernel
theorem d_M_carve_1 : decode c_M_carve 1 = .ok (.iconst 0, 1) := by decide +kernel
theorem d_M_carve_2 : decode c_M_carve 2 = .ok (.aload_n 0, 1) := by decide +kernel
theorem d_M_carve_3 : decode c_M_carve 3 = .ok (.getfield 10, 3) := by decide +kernel
theorem d_M_carve_6 : decode c_M_carve 6 = .ok (.invokevirtual 129, 3) := by decide +kernel
theorem d_M_carve_9 : decode c_M_carve 9 = .ok (.iconst 1, 1) := by decide +kernel
theorem d_M_carve_10 : decode c_M_carve 10 = .ok (.isub, 1) := by decide +kernel
theorem d_M_carve_11 : decode c_M_carve 11 = .ok (.invokestatic 58, 3) := by decide +kernel
theorem d_M_carve_14 : decode c_M_carve 14 = .ok (.ifCond .ne 13, 3) := by decide +kernel
theorem d_M_carve_17 : decode c_M_carve 17 = .ok (.new 51, 3) := by decide +kernel
theorem d_M_carve_20 : decode c_M_carve 20 = .ok (.dup, 1) := by decide +kernel
theorem d_M_carve_21 : decode c_M_carve 21 = .ok (.ldc 139, 2) := by decide +kernel
theorem d_M_carve_23 : decode c_M_carve 23 = .ok (.invokespecial 55, 3) := by decide +kernel
theorem d_M_carve_26 : decode c_M_carve 26 = .ok (.athrow, 1) := by decide +kernel
theorem d_M_carve_27 : decode c_M_carve 27 = .ok (.aload_n 0, 1) := by decide +kernel
theorem d_M_carve_28 : decode c_M_carve 28 = .ok (.getfield 10, 3) := by decide +kernel
theorem d_M_carve_31 : decode c_M_carve 31 = .ok (.iload_n 1, 1) := by decide +kernel
theorem d_M_carve_32 : decode c_M_carve 32 = .ok (.invokevirtual 141, 3) := by decide +kernel
theorem d_M_carve_35 : decode c_M_carve 35 = .ok (.checkcast 132, 3) := by decide +kernel
theorem d_M_carve_38 : decode c_M_carve 38 = .ok (.astore 4, 2) := by decide +kernel
theorem d_M_carve_40 : decode c_M_carve 40 = .ok (.aload 4, 2) := by decide +kernel
theorem d_M_carve_42 : decode c_M_carve 42 = .ok (.iload_n 2, 1) := by decide +kernel
theorem d_M_carve_43 : decode c_M_carve 43 = .ok (.invokevirtual 145, 3) := by decide +kernel
theorem d_M_carve_46 : decode c_M_carve 46 = .ok (.ifCond .ne 13, 3) := by decide +kernel
theorem d_M_carve_49 : decode c_M_carve 49 = .ok (.new 51, 3) := by decide +kernel
theorem d_M_carve_52 : decode c_M_carve 52 = .ok (.dup, 1) := by decide +kernel
theorem d_M_carve_53 : decode c_M_carve 53 = .ok (.ldc 146, 2) := by decide +kernel
theorem d_M_carve_55 : decode c_M_carve 55 = .ok (.invokespecial 55, 3) := by decide +kernel
theorem d_M_carve_58 : decode c_M_carve 58 = .ok (.athrow, 1) := by decide +kernel
theorem d_M_carve_59 : decode c_M_carve 59 = .ok (.iload_n 3, 1) := by decide +kernel
theorem d_M_carve_60 : decode c_M_carve 60 = .ok (.iconst 0, 1) := by decide +kernel
theorem d_M_carve_61 : decode c_M_carve 61 = .ok (.sipush 255, 3) := by decide +kernel
theorem d_M_carve_64 : decode c_M_carve 64 = .ok (.invokestatic 58, 3) := by decide +kernel
theorem d_M_carve_67 : decode c_M_carve 67 = .ok (.ifCond .ne 13, 3) := by decide +kernel
theorem d_M_carve_70 : decode c_M_carve 70 = .ok (.new 62, 3) := by decide +kernel
theorem d_M_carve_73 : decode c_M_carve 73 = .ok (.dup, 1) := by decide +kernel
theorem d_M_carve_74 : decode c_M_carve 74 = .ok (.ldc 148, 2) := by decide +kernel
theorem d_M_carve_76 : decode c_M_carve 76 = .ok (.invokespecial 66, 3) := by decide +kernel
theorem d_M_carve_79 : decode c_M_carve 79 = .ok (.athrow, 1) := by decide +kernel
theorem d_M_carve_80 : decode c_M_carve 80 = .ok (.aload 4, 2) := by decide +kernel
theorem d_M_carve_82 : decode c_M_carve 82 = .ok (.iload_n 2, 1) := by decide +kernel
theorem d_M_carve_83 : decode c_M_carve 83 = .ok (.iload_n 3, 1) := by decide +kernel
theorem d_M_carve_84 : decode c_M_carve 84 = .ok (.invokevirtual 150, 3) := by decide +kernel
theorem d_M_carve_87 : decode c_M_carve 87 = .ok (.return_, 1) := by decide +kernel
theorem d_M_match__0 : decode c_M_match_ 0 = .ok (.aload_n 0, 1) := by decide +kernel
theorem d_M_match__1 : decode c_M_match_ 1 = .ok (.invokevirtual 151, 3) := by decide +kernel
theorem d_M_match__4 : decode c_M_match_ 4 = .ok (.aload_n 0, 1) := by decide +kernel
theorem d_M_match__5 : decode c_M_match_ 5 = .ok (.getfield 25, 3) := by decide +kernel
theorem d_M_match__8 : decode c_M_match_ 8 = .ok (.getfield 83, 3) := by decide +kernel
theorem d_M_match__11 : decode c_M_match_ 11 = .ok (.ifCond .ne 13, 3) := by decide +kernel
theorem d_M_match__14 : decode c_M_match_ 14 = .ok (.new 87, 3) := by decide +kernel
theorem d_M_match__17 : decode c_M_match_ 17 = .ok (.dup, 1) := by decide +kernel
theorem d_M_match__18 : decode c_M_match_ 18 = .ok (.ldc 154, 2) := by decide +kernel
theorem d_M_match__20 : decode c_M_match_ 20 = .ok (.invokespecial 91, 3) := by decide +kernel
theorem d_M_match__23 : decode c_M_match_ 23 = .ok (.athrow, 1) := by decide +kernel
theorem d_M_match__24 : decode c_M_match_ 24 = .ok (.iload_n 1, 1) := by decide +kernel
theorem d_M_match__25 : decode c_M_match_ 25 = .ok (.tableswitch 63 0 3 #[31, 39, 47, 55], 31) := by decide +kernel
theorem d_M_match__56 : decode c_M_match_ 56 = .ok (.aload_n 0, 1) := by decide +kernel
theorem d_M_match__57 : decode c_M_match_ 57 = .ok (.getfield 25, 3) := by decide +kernel
theorem d_M_match__60 : decode c_M_match_ 60 = .ok (.getfield 92, 3) := by decide +kernel
theorem d_M_match__63 : decode c_M_match_ 63 = .ok (.ireturn, 1) := by decide +kernel
theorem d_M_match__64 : decode c_M_match_ 64 = .ok (.aload_n 0, 1) := by decide +kernel
theorem d_M_match__65 : decode c_M_match_ 65 = .ok (.getfield 25, 3) := by decide +kernel
theorem d_M_match__68 : decode c_M_match_ 68 = .ok (.getfield 156, 3) := by decide +kernel
theorem d_M_match__71 : decode c_M_match_ 71 = .ok (.ireturn, 1) := by decide +kernel
theorem d_M_match__72 : decode c_M_match_ 72 = .ok (.aload_n 0, 1) := by decide +kernel
theorem d_M_match__73 : decode c_M_match_ 73 = .ok (.getfield 25, 3) := by decide +kernel
theorem d_M_match__76 : decode c_M_match_ 76 = .ok (.getfield 96, 3) := by decide +kernel
theorem d_M_match__79 : decode c_M_match_ 79 = .ok (.ireturn, 1) := by decide +kernel
theorem d_M_match__80 : decode c_M_match_ 80 = .ok (.aload_n 0, 1) := by decide +kernel
theorem d_M_match__81 : decode c_M_match_ 81 = .ok (.getfield 25, 3) := by decide +kernel
theorem d_M_match__84 : decode c_M_match_ 84 = .ok (.getfield 99, 3) := by decide +kernel
theorem d_M_match__87 : decode c_M_match_ 87 = .ok (.ireturn, 1) := by decide +kernel
theorem d_M_match__88 : decode c_M_match_ 88 = .ok (.new 51, 3) := by decide +kernel
theorem d_M_match__91 : decode c_M_match_ 91 = .ok (.dup, 1) := by decide +kernel
theorem d_M_match__92 : decode c_M_match_ 92 = .ok (.ldc 71, 2) := by decide +kernel
theorem d_M_match__94 : decode c_M_match_ 94 = .ok (.invokespecial 55, 3) := by decide +kernel
theorem d_M_match__97 : decode c_M_match_ 97 = .ok (.athrow, 1) := by decide +kernel
theorem d_M_findMatch_0 : decode c_M_findMatch 0 = .ok (.aload_n 0, 1) := by decide +kernel
theorem d_M_findMatch_1 : decode c_M_findMatch 1 = .ok (.getfield 25, 3) := by decide +kernel
theorem d_M_findMatch_4 : decode c_M_findMatch 4 = .ok (.invokevirtual 223, 3) := by decide +kernel
theorem d_M_findMatch_7 : decode c_M_findMatch 7 = .ok (.iconst 0, 1) := by decide +kernel
theorem d_M_findMatch_8 : decode c_M_findMatch 8 = .ok (.istore_n 1, 1) := by decide +kernel
theorem d_M_findMatch_9 : decode c_M_findMatch 9 = .ok (.iload_n 1, 1) := by decide +kernel
theorem d_M_findMatch_10 : decode c_M_findMatch 10 = .ok (.aload_n 0, 1) := by decide +kernel
theorem d_M_findMatch_11 : decode c_M_findMatch 11 = .ok (.getfield 10, 3) := by decide +kernel
theorem d_M_findMatch_14 : decode c_M_findMatch 14 = .ok (.invokevirtual 129, 3) := by decide +kernel
theorem d_M_findMatch_17 : decode c_M_findMatch 17 = .ok (.if_icmp .ge 80, 3) := by decide +kernel
theorem d_M_findMatch_20 : decode c_M_findMatch 20 = .ok (.aload_n 0, 1) := by decide +kernel
theorem d_M_findMatch_21 : decode c_M_findMatch 21 = .ok (.getfield 10, 3) := by decide +kernel
theorem d_M_findMatch_24 : decode c_M_findMatch 24 = .ok (.iload_n 1, 1) := by decide +kernel
theorem d_M_findMatch_25 : decode c_M_findMatch 25 = .ok (.invokevirtual 141, 3) := by decide +kernel
theorem d_M_findMatch_28 : decode c_M_findMatch 28 = .ok (.checkcast 132, 3) := by decide +kernel
theorem d_M_findMatch_31 : decode c_M_findMatch 31 = .ok (.astore_n 2, 1) := by decide +kernel
theorem d_M_findMatch_32 : decode c_M_findMatch 32 = .ok (.iconst 0, 1) := by decide +kernel
theorem d_M_findMatch_33 : decode c_M_findMatch 33 = .ok (.istore_n 3, 1) := by decide +kernel
theorem d_M_findMatch_34 : decode c_M_findMatch 34 = .ok (.iload_n 3, 1) := by decide +kernel
theorem d_M_findMatch_35 : decode c_M_findMatch 35 = .ok (.aload_n 0, 1) := by decide +kernel
theorem d_M_findMatch_36 : decode c_M_findMatch 36 = .ok (.getfield 43, 3) := by decide +kernel
theorem d_M_findMatch_39 : decode c_M_findMatch 39 = .ok (.invokevirtual 102, 3) := by decide +kernel
theorem d_M_findMatch_42 : decode c_M_findMatch 42 = .ok (.if_icmp .ge 49, 3) := by decide +kernel
theorem d_M_findMatch_45 : decode c_M_findMatch 45 = .ok (.aload_n 2, 1) := by decide +kernel
theorem d_M_findMatch_46 : decode c_M_findMatch 46 = .ok (.aload_n 0, 1) := by decide +kernel
theorem d_M_findMatch_47 : decode c_M_findMatch 47 = .ok (.getfield 43, 3) := by decide +kernel
theorem d_M_findMatch_50 : decode c_M_findMatch 50 = .ok (.iload_n 3, 1) := by decide +kernel
theorem d_M_findMatch_51 : decode c_M_findMatch 51 = .ok (.invokevirtual 235, 3) := by decide +kernel
theorem d_M_findMatch_54 : decode c_M_findMatch 54 = .ok (.istore 4, 2) := by decide +kernel
theorem d_M_findMatch_56 : decode c_M_findMatch 56 = .ok (.iload 4, 2) := by decide +kernel
theorem d_M_findMatch_58 : decode c_M_findMatch 58 = .ok (.aload_n 2, 1) := by decide +kernel
theorem d_M_findMatch_59 : decode c_M_findMatch 59 = .ok (.invokevirtual 239, 3) := by decide +kernel
theorem d_M_findMatch_62 : decode c_M_findMatch 62 = .ok (.if_icmp .lt 23, 3) := by decide +kernel
theorem d_M_findMatch_65 : decode c_M_findMatch 65 = .ok (.aload_n 0, 1) := by decide +kernel
theorem d_M_findMatch_66 : decode c_M_findMatch 66 = .ok (.getfield 25, 3) := by decide +kernel
theorem d_M_findMatch_69 : decode c_M_findMatch 69 = .ok (.iload_n 1, 1) := by decide +kernel
theorem d_M_findMatch_70 : decode c_M_findMatch 70 = .ok (.iload_n 3, 1) := by decide +kernel
theorem d_M_findMatch_71 : decode c_M_findMatch 71 = .ok (.aload_n 2, 1) := by decide +kernel
theorem d_M_findMatch_72 : decode c_M_findMatch 72 = .ok (.aload_n 0, 1) := by decide +kernel
theorem d_M_findMatch_73 : decode c_M_findMatch 73 = .ok (.getfield 43, 3) := by decide +kernel
theorem d_M_findMatch_76 : decode c_M_findMatch 76 = .ok (.iload_n 3, 1) := by decide +kernel
theorem d_M_findMatch_77 : decode c_M_findMatch 77 = .ok (.invokevirtual 242, 3) := by decide +kernel
theorem d_M_findMatch_80 : decode c_M_findMatch 80 = .ok (.iload 4, 2) := by decide +kernel
theorem d_M_findMatch_82 : decode c_M_findMatch 82 = .ok (.invokevirtual 232, 3) := by decide +kernel
theorem d_M_findMatch_85 : decode c_M_findMatch 85 = .ok (.iinc 3 1, 3) := by decide +kernel
theorem d_M_findMatch_88 : decode c_M_findMatch 88 = .ok (.goto (-54), 3) := by decide +kernel
theorem d_M_findMatch_91 : decode c_M_findMatch 91 = .ok (.iinc 1 1, 3) := by decide +kernel
theorem d_M_findMatch_94 : decode c_M_findMatch 94 = .ok (.goto (-85), 3) := by decide +kernel
theorem d_M_findMatch_97 : decode c_M_findMatch 97 = .ok (.return_, 1) := by decide +kernel
theorem d_M_kind_0 : decode c_M_kind 0 = .ok (.iload_n 1, 1) := by decide +kernel
theorem d_M_kind_1 : decode c_M_kind 1 = .ok (.iconst 0, 1) := by decide +kernel
theorem d_M_kind_2 : decode c_M_kind 2 = .ok (.sipush 1000, 3) := by decide +kernel
theorem d_M_kind_5 : decode c_M_kind 5 = .ok (.invokestatic 58, 3) := by decide +kernel
theorem d_M_kind_8 : decode c_M_kind 8 = .ok (.ifCond .ne 13, 3) := by decide +kernel
theorem d_M_kind_11 : decode c_M_kind 11 = .ok (.new 62, 3) := by decide +kernel
theorem d_M_kind_14 : decode c_M_kind 14 = .ok (.dup, 1) := by decide +kernel
theorem d_M_kind_15 : decode c_M_kind 15 = .ok (.ldc 159, 2) := by decide +kernel
theorem d_M_kind_17 : decode c_M_kind 17 = .ok (.invokespecial 66, 3) := by decide +kernel
theorem d_M_kind_20 : decode c_M_kind 20 = .ok (.athrow, 1) := by decide +kernel
theorem d_M_kind_21 : decode c_M_kind 21 = .ok (.aload_n 0, 1) := by decide +kernel
theorem d_M_kind_22 : decode c_M_kind 22 = .ok (.getfield 16, 3) := by decide +kernel
theorem d_M_kind_25 : decode c_M_kind 25 = .ok (.invokevirtual 129, 3) := by decide +kernel
theorem d_M_kind_28 : decode c_M_kind 28 = .ok (.bipush 16, 2) := by decide +kernel
theorem d_M_kind_30 : decode c_M_kind 30 = .ok (.if_icmp .lt 13, 3) := by decide +kernel
theorem d_M_kind_33 : decode c_M_kind 33 = .ok (.new 87, 3) := by decide +kernel
theorem d_M_kind_36 : decode c_M_kind 36 = .ok (.dup, 1) := by decide +kernel
theorem d_M_kind_37 : decode c_M_kind 37 = .ok (.ldc 161, 2) := by decide +kernel
theorem d_M_kind_39 : decode c_M_kind 39 = .ok (.invokespecial 91, 3) := by decide +kernel
theorem d_M_kind_42 : decode c_M_kind 42 = .ok (.athrow, 1) := by decide +kernel
theorem d_M_kind_43 : decode c_M_kind 43 = .ok (.aload_n 0, 1) := by decide +kernel
theorem d_M_kind_44 : decode c_M_kind 44 = .ok (.getfield 16, 3) := by decide +kernel
theorem d_M_kind_47 : decode c_M_kind 47 = .ok (.new 163, 3) := by decide +kernel
theorem d_M_kind_50 : decode c_M_kind 50 = .ok (.dup, 1) := by decide +kernel
theorem d_M_kind_51 : decode c_M_kind 51 = .ok (.iconst (-1), 1) := by decide +kernel
theorem d_M_kind_52 : decode c_M_kind 52 = .ok (.iload_n 1, 1) := by decide +kernel
theorem d_M_kind_53 : decode c_M_kind 53 = .ok (.iconst (-1), 1) := by decide +kernel
theorem d_M_kind_54 : decode c_M_kind 54 = .ok (.iconst (-1), 1) := by decide +kernel
theorem d_M_kind_55 : decode c_M_kind 55 = .ok (.invokespecial 165, 3) := by decide +kernel
theorem d_M_kind_58 : decode c_M_kind 58 = .ok (.invokevirtual 135, 3) := by decide +kernel
theorem d_M_kind_61 : decode c_M_kind 61 = .ok (.pop, 1) := by decide +kernel
theorem d_M_kind_62 : decode c_M_kind 62 = .ok (.aload_n 0, 1) := by decide +kernel
theorem d_M_kind_63 : decode c_M_kind 63 = .ok (.getfield 16, 3) := by decide +kernel
theorem d_M_kind_66 : decode c_M_kind 66 = .ok (.invokevirtual 129, 3) := by decide +kernel
theorem d_M_kind_69 : decode c_M_kind 69 = .ok (.iconst 1, 1) := by decide +kernel
theorem d_M_kind_70 : decode c_M_kind 70 = .ok (.isub, 1) := by decide +kernel
theorem d_M_kind_71 : decode c_M_kind 71 = .ok (.ireturn, 1) := by decide +kernel
theorem d_M_question_0 : decode c_M_question 0 = .ok (.aload_n 0, 1) := by decide +kernel
theorem d_M_question_1 : decode c_M_question 1 = .ok (.getfield 16, 3) := by decide +kernel
theorem d_M_question_4 : decode c_M_question 4 = .ok (.invokevirtual 129, 3) := by decide +kernel
theorem d_M_question_7 : decode c_M_question 7 = .ok (.iconst 1, 1) := by decide +kernel
theorem d_M_question_8 : decode c_M_question 8 = .ok (.isub, 1) := by decide +kernel
theorem d_M_question_9 : decode c_M_question 9 = .ok (.istore 4, 2) := by decide +kernel
theorem d_M_question_11 : decode c_M_question 11 = .ok (.iload_n 2, 1) := by decide +kernel
theorem d_M_question_12 : decode c_M_question 12 = .ok (.iconst 0, 1) := by decide +kernel
theorem d_M_question_13 : decode c_M_question 13 = .ok (.iload 4, 2) := by decide +kernel
theorem d_M_question_15 : decode c_M_question 15 = .ok (.invokestatic 58, 3) := by decide +kernel
theorem d_M_question_18 : decode c_M_question 18 = .ok (.ifCond .eq 13, 3) := by decide +kernel
theorem d_M_question_21 : decode c_M_question 21 = .ok (.iload_n 3, 1) := by decide +kernel
theorem d_M_question_22 : decode c_M_question 22 = .ok (.iconst 0, 1) := by decide +kernel
theorem d_M_question_23 : decode c_M_question 23 = .ok (.iload 4, 2) := by decide +kernel
theorem d_M_question_25 : decode c_M_question 25 = .ok (.invokestatic 58, 3) := by decide +kernel
theorem d_M_question_28 : decode c_M_question 28 = .ok (.ifCond .ne 13, 3) := by decide +kernel
theorem d_M_question_31 : decode c_M_question 31 = .ok (.new 51, 3) := by decide +kernel
theorem d_M_question_34 : decode c_M_question 34 = .ok (.dup, 1) := by decide +kernel
theorem d_M_question_35 : decode c_M_question 35 = .ok (.ldc 168, 2) := by decide +kernel
theorem d_M_question_37 : decode c_M_question 37 = .ok (.invokespecial 55, 3) := by decide +kernel
theorem d_M_question_40 : decode c_M_question 40 = .ok (.athrow, 1) := by decide +kernel
theorem d_M_question_41 : decode c_M_question 41 = .ok (.iload_n 1, 1) := by decide +kernel
theorem d_M_question_42 : decode c_M_question 42 = .ok (.iconst 0, 1) := by decide +kernel
theorem d_M_question_43 : decode c_M_question 43 = .ok (.bipush 15, 2) := by decide +kernel
theorem d_M_question_45 : decode c_M_question 45 = .ok (.invokestatic 58, 3) := by decide +kernel
theorem d_M_question_48 : decode c_M_question 48 = .ok (.ifCond .ne 13, 3) := by decide +kernel
theorem d_M_question_51 : decode c_M_question 51 = .ok (.new 62, 3) := by decide +kernel
theorem d_M_question_54 : decode c_M_question 54 = .ok (.dup, 1) := by decide +kernel
theorem d_M_question_55 : decode c_M_question 55 = .ok (.ldc 170, 2) := by decide +kernel
theorem d_M_question_57 : decode c_M_question 57 = .ok (.invokespecial 66, 3) := by decide +kernel
theorem d_M_question_60 : decode c_M_question 60 = .ok (.athrow, 1) := by decide +kernel
theorem d_M_question_61 : decode c_M_question 61 = .ok (.aload_n 0, 1) := by decide +kernel
theorem d_M_question_62 : decode c_M_question 62 = .ok (.getfield 16, 3) := by decide +kernel
theorem d_M_question_65 : decode c_M_question 65 = .ok (.invokevirtual 129, 3) := by decide +kernel
theorem d_M_question_68 : decode c_M_question 68 = .ok (.bipush 16, 2) := by decide +kernel
theorem d_M_question_70 : decode c_M_question 70 = .ok (.if_icmp .lt 13, 3) := by decide +kernel
theorem d_M_question_73 : decode c_M_question 73 = .ok (.new 87, 3) := by decide +kernel
theorem d_M_question_76 : decode c_M_question 76 = .ok (.dup, 1) := by decide +kernel
theorem d_M_question_77 : decode c_M_question 77 = .ok (.ldc 161, 2) := by decide +kernel
theorem d_M_question_79 : decode c_M_question 79 = .ok (.invokespecial 91, 3) := by decide +kernel
theorem d_M_question_82 : decode c_M_question 82 = .ok (.athrow, 1) := by decide +kernel
theorem d_M_question_83 : decode c_M_question 83 = .ok (.aload_n 0, 1) := by decide +kernel
theorem d_M_question_84 : decode c_M_question 84 = .ok (.getfield 16, 3) := by decide +kernel
theorem d_M_question_87 : decode c_M_question 87 = .ok (.new 163, 3) := by decide +kernel
theorem d_M_question_90 : decode c_M_question 90 = .ok (.dup, 1) := by decide +kernel
theorem d_M_question_91 : decode c_M_question 91 = .ok (.iload_n 1, 1) := by decide +kernel
theorem d_M_question_92 : decode c_M_question 92 = .ok (.iconst (-1), 1) := by decide +kernel
theorem d_M_question_93 : decode c_M_question 93 = .ok (.iload_n 2, 1) := by decide +kernel
theorem d_M_question_94 : decode c_M_question 94 = .ok (.iload_n 3, 1) := by decide +kernel
theorem d_M_question_95 : decode c_M_question 95 = .ok (.invokespecial 165, 3) := by decide +kernel
theorem d_M_question_98 : decode c_M_question 98 = .ok (.invokevirtual 135, 3) := by decide +kernel
theorem d_M_question_101 : decode c_M_question 101 = .ok (.pop, 1) := by decide +kernel
theorem d_M_question_102 : decode c_M_question 102 = .ok (.aload_n 0, 1) := by decide +kernel
theorem d_M_question_103 : decode c_M_question 103 = .ok (.getfield 16, 3) := by decide +kernel
theorem d_M_question_106 : decode c_M_question 106 = .ok (.invokevirtual 129, 3) := by decide +kernel
theorem d_M_question_109 : decode c_M_question 109 = .ok (.iconst 1, 1) := by decide +kernel
theorem d_M_question_110 : decode c_M_question 110 = .ok (.isub, 1) := by decide +kernel
theorem d_M_question_111 : decode c_M_question 111 = .ok (.ireturn, 1) := by decide +kernel
theorem d_M_ask_0 : decode c_M_ask 0 = .ok (.iload_n 1, 1) := by decide +kernel
theorem d_M_ask_1 : decode c_M_ask 1 = .ok (.iconst 0, 1) := by decide +kernel
theorem d_M_ask_2 : decode c_M_ask 2 = .ok (.ldc 172, 2) := by decide +kernel
theorem d_M_ask_4 : decode c_M_ask 4 = .ok (.invokestatic 58, 3) := by decide +kernel
theorem d_M_ask_7 : decode c_M_ask 7 = .ok (.ifCond .eq 13, 3) := by decide +kernel
theorem d_M_ask_10 : decode c_M_ask 10 = .ok (.iload_n 2, 1) := by decide +kernel
theorem d_M_ask_11 : decode c_M_ask 11 = .ok (.iconst 0, 1) := by decide +kernel
theorem d_M_ask_12 : decode c_M_ask 12 = .ok (.ldc 172, 2) := by decide +kernel
theorem d_M_ask_14 : decode c_M_ask 14 = .ok (.invokestatic 58, 3) := by decide +kernel
theorem d_M_ask_17 : decode c_M_ask 17 = .ok (.ifCond .ne 13, 3) := by decide +kernel
theorem d_M_ask_20 : decode c_M_ask 20 = .ok (.new 62, 3) := by decide +kernel
theorem d_M_ask_23 : decode c_M_ask 23 = .ok (.dup, 1) := by decide +kernel
theorem d_M_ask_24 : decode c_M_ask 24 = .ok (.ldc 173, 2) := by decide +kernel
theorem d_M_ask_26 : decode c_M_ask 26 = .ok (.invokespecial 66, 3) := by decide +kernel
theorem d_M_ask_29 : decode c_M_ask 29 = .ok (.athrow, 1) := by decide +kernel
theorem d_M_ask_30 : decode c_M_ask 30 = .ok (.aload_n 0, 1) := by decide +kernel
theorem d_M_ask_31 : decode c_M_ask 31 = .ok (.getfield 16, 3) := by decide +kernel
theorem d_M_ask_34 : decode c_M_ask 34 = .ok (.invokevirtual 175, 3) := by decide +kernel
theorem d_M_ask_37 : decode c_M_ask 37 = .ok (.ifCond .eq 13, 3) := by decide +kernel
theorem d_M_ask_40 : decode c_M_ask 40 = .ok (.new 87, 3) := by decide +kernel
theorem d_M_ask_43 : decode c_M_ask 43 = .ok (.dup, 1) := by decide +kernel
theorem d_M_ask_44 : decode c_M_ask 44 = .ok (.ldc 179, 2) := by decide +kernel
theorem d_M_ask_46 : decode c_M_ask 46 = .ok (.invokespecial 91, 3) := by decide +kernel
theorem d_M_ask_49 : decode c_M_ask 49 = .ok (.athrow, 1) := by decide +kernel
theorem d_M_ask_50 : decode c_M_ask 50 = .ok (.aload_n 0, 1) := by decide +kernel
theorem d_M_ask_51 : decode c_M_ask 51 = .ok (.iload_n 1, 1) := by decide +kernel
theorem d_M_ask_52 : decode c_M_ask 52 = .ok (.iload_n 2, 1) := by decide +kernel
theorem d_M_ask_53 : decode c_M_ask 53 = .ok (.invokevirtual 181, 3) := by decide +kernel
theorem d_M_ask_56 : decode c_M_ask 56 = .ok (.astore_n 3, 1) := by decide +kernel
theorem d_M_ask_57 : decode c_M_ask 57 = .ok (.aload_n 3, 1) := by decide +kernel
theorem d_M_ask_58 : decode c_M_ask 58 = .ok (.invokevirtual 185, 3) := by decide +kernel
theorem d_M_ask_61 : decode c_M_ask 61 = .ok (.ifCond .eq 13, 3) := by decide +kernel
theorem d_M_ask_64 : decode c_M_ask 64 = .ok (.bipush (-2), 2) := by decide +kernel
theorem d_M_ask_66 : decode c_M_ask 66 = .ok (.aload_n 3, 1) := by decide +kernel
theorem d_M_ask_67 : decode c_M_ask 67 = .ok (.getfield 188, 3) := by decide +kernel
theorem d_M_ask_70 : decode c_M_ask 70 = .ok (.isub, 1) := by decide +kernel
theorem d_M_ask_71 : decode c_M_ask 71 = .ok (.goto 7, 3) := by decide +kernel
theorem d_M_ask_74 : decode c_M_ask 74 = .ok (.aload_n 3, 1) := by decide +kernel
theorem d_M_ask_75 : decode c_M_ask 75 = .ok (.getfield 191, 3) := by decide +kernel
theorem d_M_ask_78 : decode c_M_ask 78 = .ok (.ireturn, 1) := by decide +kernel
theorem d_M_lastAsked_0 : decode c_M_lastAsked 0 = .ok (.aload_n 0, 1) := by decide +kernel
theorem d_M_lastAsked_1 : decode c_M_lastAsked 1 = .ok (.getfield 16, 3) := by decide +kernel
theorem d_M_lastAsked_4 : decode c_M_lastAsked 4 = .ok (.invokevirtual 129, 3) := by decide +kernel
theorem d_M_lastAsked_7 : decode c_M_lastAsked 7 = .ok (.iconst 1, 1) := by decide +kernel
theorem d_M_lastAsked_8 : decode c_M_lastAsked 8 = .ok (.isub, 1) := by decide +kernel
theorem d_M_lastAsked_9 : decode c_M_lastAsked 9 = .ok (.istore_n 3, 1) := by decide +kernel
theorem d_M_lastAsked_10 : decode c_M_lastAsked 10 = .ok (.aload_n 0, 1) := by decide +kernel
theorem d_M_lastAsked_11 : decode c_M_lastAsked 11 = .ok (.getfield 16, 3) := by decide +kernel
theorem d_M_lastAsked_14 : decode c_M_lastAsked 14 = .ok (.iload_n 3, 1) := by decide +kernel
theorem d_M_lastAsked_15 : decode c_M_lastAsked 15 = .ok (.invokevirtual 141, 3) := by decide +kernel
theorem d_M_lastAsked_18 : decode c_M_lastAsked 18 = .ok (.checkcast 163, 3) := by decide +kernel
theorem d_M_lastAsked_21 : decode c_M_lastAsked 21 = .ok (.astore 4, 2) := by decide +kernel
theorem d_M_lastAsked_23 : decode c_M_lastAsked 23 = .ok (.iconst 0, 1) := by decide +kernel
theorem d_M_lastAsked_24 : decode c_M_lastAsked 24 = .ok (.istore 5, 2) := by decide +kernel
theorem d_M_lastAsked_26 : decode c_M_lastAsked 26 = .ok (.iload 5, 2) := by decide +kernel
theorem d_M_lastAsked_28 : decode c_M_lastAsked 28 = .ok (.bipush 16, 2) := by decide +kernel
theorem d_M_lastAsked_30 : decode c_M_lastAsked 30 = .ok (.if_icmp .ge 50, 3) := by decide +kernel
theorem d_M_lastAsked_33 : decode c_M_lastAsked 33 = .ok (.aload 4, 2) := by decide +kernel
theorem d_M_lastAsked_35 : decode c_M_lastAsked 35 = .ok (.iload_n 2, 1) := by decide +kernel
theorem d_M_lastAsked_36 : decode c_M_lastAsked 36 = .ok (.invokevirtual 245, 3) := by decide +kernel
theorem d_M_lastAsked_39 : decode c_M_lastAsked 39 = .ok (.ifCond .eq 41, 3) := by decide +kernel
theorem d_M_lastAsked_42 : decode c_M_lastAsked 42 = .ok (.aload 4, 2) := by decide +kernel
theorem d_M_lastAsked_44 : decode c_M_lastAsked 44 = .ok (.iload_n 1, 1) := by decide +kernel
theorem d_M_lastAsked_45 : decode c_M_lastAsked 45 = .ok (.invokevirtual 248, 3) := by decide +kernel
theorem d_M_lastAsked_48 : decode c_M_lastAsked 48 = .ok (.istore 6, 2) := by decide +kernel
theorem d_M_lastAsked_50 : decode c_M_lastAsked 50 = .ok (.iload 6, 2) := by decide +kernel
theorem d_M_lastAsked_52 : decode c_M_lastAsked 52 = .ok (.iconst 0, 1) := by decide +kernel
theorem d_M_lastAsked_53 : decode c_M_lastAsked 53 = .ok (.iload_n 3, 1) := by decide +kernel
theorem d_M_lastAsked_54 : decode c_M_lastAsked 54 = .ok (.invokestatic 58, 3) := by decide +kernel
theorem d_M_lastAsked_57 : decode c_M_lastAsked 57 = .ok (.ifCond .eq 17, 3) := by decide +kernel
theorem d_M_lastAsked_60 : decode c_M_lastAsked 60 = .ok (.aload_n 0, 1) := by decide +kernel
theorem d_M_lastAsked_61 : decode c_M_lastAsked 61 = .ok (.getfield 16, 3) := by decide +kernel
theorem d_M_lastAsked_64 : decode c_M_lastAsked 64 = .ok (.iload 6, 2) := by decide +kernel
theorem d_M_lastAsked_66 : decode c_M_lastAsked 66 = .ok (.invokevirtual 141, 3) := by decide +kernel
theorem d_M_lastAsked_69 : decode c_M_lastAsked 69 = .ok (.checkcast 163, 3) := by decide +kernel
theorem d_M_lastAsked_72 : decode c_M_lastAsked 72 = .ok (.astore 4, 2) := by decide +kernel
theorem d_M_lastAsked_74 : decode c_M_lastAsked 74 = .ok (.iinc 5 1, 3) := by decide +kernel
theorem d_M_lastAsked_77 : decode c_M_lastAsked 77 = .ok (.goto (-51), 3) := by decide +kernel
theorem d_M_lastAsked_80 : decode c_M_lastAsked 80 = .ok (.aload 4, 2) := by decide +kernel
theorem d_M_lastAsked_82 : decode c_M_lastAsked 82 = .ok (.areturn, 1) := by decide +kernel
theorem d_M_rule_0 : decode c_M_rule 0 = .ok (.aload_n 0, 1) := by decide +kernel
theorem d_M_rule_1 : decode c_M_rule 1 = .ok (.getfield 43, 3) := by decide +kernel
theorem d_M_rule_4 : decode c_M_rule 4 = .ok (.iload_n 1, 1) := by decide +kernel
theorem d_M_rule_5 : decode c_M_rule 5 = .ok (.invokevirtual 47, 3) := by decide +kernel
theorem d_M_rule_8 : decode c_M_rule 8 = .ok (.ifCond .eq 14, 3) := by decide +kernel
theorem d_M_rule_11 : decode c_M_rule 11 = .ok (.aload_n 0, 1) := by decide +kernel
theorem d_M_rule_12 : decode c_M_rule 12 = .ok (.getfield 43, 3) := by decide +kernel
theorem d_M_rule_15 : decode c_M_rule 15 = .ok (.iload_n 2, 1) := by decide +kernel
theorem d_M_rule_16 : decode c_M_rule 16 = .ok (.invokevirtual 47, 3) := by decide +kernel
theorem d_M_rule_19 : decode c_M_rule 19 = .ok (.ifCond .ne 13, 3) := by decide +kernel
theorem d_M_rule_22 : decode c_M_rule 22 = .ok (.new 51, 3) := by decide +kernel
theorem d_M_rule_25 : decode c_M_rule 25 = .ok (.dup, 1) := by decide +kernel
theorem d_M_rule_26 : decode c_M_rule 26 = .ok (.ldc 194, 2) := by decide +kernel
theorem d_M_rule_28 : decode c_M_rule 28 = .ok (.invokespecial 55, 3) := by decide +kernel
theorem d_M_rule_31 : decode c_M_rule 31 = .ok (.athrow, 1) := by decide +kernel
theorem d_M_rule_32 : decode c_M_rule 32 = .ok (.iload_n 2, 1) := by decide +kernel
theorem d_M_rule_33 : decode c_M_rule 33 = .ok (.iload_n 1, 1) := by decide +kernel
theorem d_M_rule_34 : decode c_M_rule 34 = .ok (.if_icmp .ge 13, 3) := by decide +kernel
theorem d_M_rule_37 : decode c_M_rule 37 = .ok (.new 62, 3) := by decide +kernel
theorem d_M_rule_40 : decode c_M_rule 40 = .ok (.dup, 1) := by decide +kernel
theorem d_M_rule_41 : decode c_M_rule 41 = .ok (.ldc 196, 2) := by decide +kernel
theorem d_M_rule_43 : decode c_M_rule 43 = .ok (.invokespecial 66, 3) := by decide +kernel
theorem d_M_rule_46 : decode c_M_rule 46 = .ok (.athrow, 1) := by decide +kernel
theorem d_M_rule_47 : decode c_M_rule 47 = .ok (.iload_n 3, 1) := by decide +kernel
theorem d_M_rule_48 : decode c_M_rule 48 = .ok (.iconst 0, 1) := by decide +kernel
theorem d_M_rule_49 : decode c_M_rule 49 = .ok (.sipush 255, 3) := by decide +kernel
theorem d_M_rule_52 : decode c_M_rule 52 = .ok (.invokestatic 58, 3) := by decide +kernel
theorem d_M_rule_55 : decode c_M_rule 55 = .ok (.ifCond .eq 15, 3) := by decide +kernel
theorem d_M_rule_58 : decode c_M_rule 58 = .ok (.iload 4, 2) := by decide +kernel
theorem d_M_rule_60 : decode c_M_rule 60 = .ok (.iload_n 3, 1) := by decide +kernel
theorem d_M_rule_61 : decode c_M_rule 61 = .ok (.sipush 255, 3) := by decide +kernel
theorem d_M_rule_64 : decode c_M_rule 64 = .ok (.invokestatic 58, 3) := by decide +kernel
theorem d_M_rule_67 : decode c_M_rule 67 = .ok (.ifCond .ne 13, 3) := by decide +kernel
theorem d_M_rule_70 : decode c_M_rule 70 = .ok (.new 62, 3) := by decide +kernel
theorem d_M_rule_73 : decode c_M_rule 73 = .ok (.dup, 1) := by decide +kernel
theorem d_M_rule_74 : decode c_M_rule 74 = .ok (.ldc 198, 2) := by decide +kernel
theorem d_M_rule_76 : decode c_M_rule 76 = .ok (.invokespecial 66, 3) := by decide +kernel
theorem d_M_rule_79 : decode c_M_rule 79 = .ok (.athrow, 1) := by decide +kernel
theorem d_M_rule_80 : decode c_M_rule 80 = .ok (.iload 5, 2) := by decide +kernel
theorem d_M_rule_82 : decode c_M_rule 82 = .ok (.sipush (-10000), 3) := by decide +kernel
theorem d_M_rule_85 : decode c_M_rule 85 = .ok (.sipush 10000, 3) := by decide +kernel
theorem d_M_rule_88 : decode c_M_rule 88 = .ok (.invokestatic 58, 3) := by decide +kernel
theorem d_M_rule_91 : decode c_M_rule 91 = .ok (.ifCond .eq 16, 3) := by decide +kernel
theorem d_M_rule_94 : decode c_M_rule 94 = .ok (.iload 6, 2) := by decide +kernel
theorem d_M_rule_96 : decode c_M_rule 96 = .ok (.iload 5, 2) := by decide +kernel
theorem d_M_rule_98 : decode c_M_rule 98 = .ok (.sipush 10000, 3) := by decide +kernel
theorem d_M_rule_101 : decode c_M_rule 101 = .ok (.invokestatic 58, 3) := by decide +kernel
theorem d_M_rule_104 : decode c_M_rule 104 = .ok (.ifCond .ne 13, 3) := by decide +kernel
theorem d_M_rule_107 : decode c_M_rule 107 = .ok (.new 62, 3) := by decide +kernel
theorem d_M_rule_110 : decode c_M_rule 110 = .ok (.dup, 1) := by decide +kernel
theorem d_M_rule_111 : decode c_M_rule 111 = .ok (.ldc 200, 2) := by decide +kernel
theorem d_M_rule_113 : decode c_M_rule 113 = .ok (.invokespecial 66, 3) := by decide +kernel
theorem d_M_rule_116 : decode c_M_rule 116 = .ok (.athrow, 1) := by decide +kernel
theorem d_M_rule_117 : decode c_M_rule 117 = .ok (.aload_n 0, 1) := by decide +kernel
theorem d_M_rule_118 : decode c_M_rule 118 = .ok (.getfield 19, 3) := by decide +kernel
theorem d_M_rule_121 : decode c_M_rule 121 = .ok (.invokevirtual 129, 3) := by decide +kernel
theorem d_M_rule_124 : decode c_M_rule 124 = .ok (.bipush 8, 2) := by decide +kernel
theorem d_M_rule_126 : decode c_M_rule 126 = .ok (.if_icmp .lt 13, 3) := by decide +kernel
theorem d_M_rule_129 : decode c_M_rule 129 = .ok (.new 87, 3) := by decide +kernel
theorem d_M_rule_132 : decode c_M_rule 132 = .ok (.dup, 1) := by decide +kernel
theorem d_M_rule_133 : decode c_M_rule 133 = .ok (.ldc 202, 2) := by decide +kernel
theorem d_M_rule_135 : decode c_M_rule 135 = .ok (.invokespecial 91, 3) := by decide +kernel
theorem d_M_rule_138 : decode c_M_rule 138 = .ok (.athrow, 1) := by decide +kernel
theorem d_M_rule_139 : decode c_M_rule 139 = .ok (.aload_n 0, 1) := by decide +kernel
theorem d_M_rule_140 : decode c_M_rule 140 = .ok (.getfield 19, 3) := by decide +kernel
theorem d_M_rule_143 : decode c_M_rule 143 = .ok (.new 204, 3) := by decide +kernel
theorem d_M_rule_146 : decode c_M_rule 146 = .ok (.dup, 1) := by decide +kernel
theorem d_M_rule_147 : decode c_M_rule 147 = .ok (.iload_n 1, 1) := by decide +kernel
theorem d_M_rule_148 : decode c_M_rule 148 = .ok (.iload_n 2, 1) := by decide +kernel
theorem d_M_rule_149 : decode c_M_rule 149 = .ok (.iload_n 3, 1) := by decide +kernel
theorem d_M_rule_150 : decode c_M_rule 150 = .ok (.iload 4, 2) := by decide +kernel
theorem d_M_rule_152 : decode c_M_rule 152 = .ok (.iload 5, 2) := by decide +kernel
theorem d_M_rule_154 : decode c_M_rule 154 = .ok (.iload 6, 2) := by decide +kernel
theorem d_M_rule_156 : decode c_M_rule 156 = .ok (.invokespecial 206, 3) := by decide +kernel
theorem d_M_rule_159 : decode c_M_rule 159 = .ok (.invokevirtual 135, 3) := by decide +kernel
theorem d_M_rule_162 : decode c_M_rule 162 = .ok (.pop, 1) := by decide +kernel
theorem d_M_rule_163 : decode c_M_rule 163 = .ok (.aload_n 0, 1) := by decide +kernel
theorem d_M_rule_164 : decode c_M_rule 164 = .ok (.getfield 19, 3) := by decide +kernel
theorem d_M_rule_167 : decode c_M_rule 167 = .ok (.invokevirtual 129, 3) := by decide +kernel
theorem d_M_rule_170 : decode c_M_rule 170 = .ok (.ireturn, 1) := by decide +kernel
theorem d_M_age_0 : decode c_M_age 0 = .ok (.iload_n 1, 1) := by decide +kernel
theorem d_M_age_1 : decode c_M_age 1 = .ok (.iconst 0, 1) := by decide +kernel
theorem d_M_age_2 : decode c_M_age 2 = .ok (.iconst 1, 1) := by decide +kernel
theorem d_M_age_3 : decode c_M_age 3 = .ok (.invokestatic 58, 3) := by decide +kernel
theorem d_M_age_6 : decode c_M_age 6 = .ok (.ifCond .ne 13, 3) := by decide +kernel
theorem d_M_age_9 : decode c_M_age 9 = .ok (.new 51, 3) := by decide +kernel
theorem d_M_age_12 : decode c_M_age 12 = .ok (.dup, 1) := by decide +kernel
theorem d_M_age_13 : decode c_M_age 13 = .ok (.ldc 71, 2) := by decide +kernel
theorem d_M_age_15 : decode c_M_age 15 = .ok (.invokespecial 55, 3) := by decide +kernel
theorem d_M_age_18 : decode c_M_age 18 = .ok (.athrow, 1) := by decide +kernel
theorem d_M_age_19 : decode c_M_age 19 = .ok (.sipush (-10000), 3) := by decide +kernel
theorem d_M_age_22 : decode c_M_age 22 = .ok (.istore_n 2, 1) := by decide +kernel
theorem d_M_age_23 : decode c_M_age 23 = .ok (.sipush 10000, 3) := by decide +kernel
theorem d_M_age_26 : decode c_M_age 26 = .ok (.istore_n 3, 1) := by decide +kernel
theorem d_M_age_27 : decode c_M_age 27 = .ok (.iconst 0, 1) := by decide +kernel
theorem d_M_age_28 : decode c_M_age 28 = .ok (.istore 4, 2) := by decide +kernel
theorem d_M_age_30 : decode c_M_age 30 = .ok (.iconst 0, 1) := by decide +kernel
theorem d_M_age_31 : decode c_M_age 31 = .ok (.istore 5, 2) := by decide +kernel
theorem d_M_age_33 : decode c_M_age 33 = .ok (.iload 5, 2) := by decide +kernel
theorem d_M_age_35 : decode c_M_age 35 = .ok (.aload_n 0, 1) := by decide +kernel
theorem d_M_age_36 : decode c_M_age 36 = .ok (.getfield 19, 3) := by decide +kernel
theorem d_M_age_39 : decode c_M_age 39 = .ok (.invokevirtual 129, 3) := by decide +kernel
theorem d_M_age_42 : decode c_M_age 42 = .ok (.if_icmp .ge 58, 3) := by decide +kernel
theorem d_M_age_45 : decode c_M_age 45 = .ok (.aload_n 0, 1) := by decide +kernel
theorem d_M_age_46 : decode c_M_age 46 = .ok (.getfield 19, 3) := by decide +kernel
theorem d_M_age_49 : decode c_M_age 49 = .ok (.iload 5, 2) := by decide +kernel
theorem d_M_age_51 : decode c_M_age 51 = .ok (.invokevirtual 141, 3) := by decide +kernel
theorem d_M_age_54 : decode c_M_age 54 = .ok (.checkcast 204, 3) := by decide +kernel
theorem d_M_age_57 : decode c_M_age 57 = .ok (.astore 6, 2) := by decide +kernel
theorem d_M_age_59 : decode c_M_age 59 = .ok (.aload 6, 2) := by decide +kernel
theorem d_M_age_61 : decode c_M_age 61 = .ok (.aload_n 0, 1) := by decide +kernel
theorem d_M_age_62 : decode c_M_age 62 = .ok (.getfield 43, 3) := by decide +kernel
theorem d_M_age_65 : decode c_M_age 65 = .ok (.invokevirtual 209, 3) := by decide +kernel
theorem d_M_age_68 : decode c_M_age 68 = .ok (.ifCond .eq 26, 3) := by decide +kernel
theorem d_M_age_71 : decode c_M_age 71 = .ok (.iconst 1, 1) := by decide +kernel
theorem d_M_age_72 : decode c_M_age 72 = .ok (.istore 4, 2) := by decide +kernel
theorem d_M_age_74 : decode c_M_age 74 = .ok (.iload_n 2, 1) := by decide +kernel
theorem d_M_age_75 : decode c_M_age 75 = .ok (.aload 6, 2) := by decide +kernel
theorem d_M_age_77 : decode c_M_age 77 = .ok (.getfield 213, 3) := by decide +kernel
theorem d_M_age_80 : decode c_M_age 80 = .ok (.invokestatic 37, 3) := by decide +kernel
theorem d_M_age_83 : decode c_M_age 83 = .ok (.istore_n 2, 1) := by decide +kernel
theorem d_M_age_84 : decode c_M_age 84 = .ok (.iload_n 3, 1) := by decide +kernel
theorem d_M_age_85 : decode c_M_age 85 = .ok (.aload 6, 2) := by decide +kernel
theorem d_M_age_87 : decode c_M_age 87 = .ok (.getfield 216, 3) := by decide +kernel
theorem d_M_age_90 : decode c_M_age 90 = .ok (.invokestatic 31, 3) := by decide +kernel
theorem d_M_age_93 : decode c_M_age 93 = .ok (.istore_n 3, 1) := by decide +kernel
theorem d_M_age_94 : decode c_M_age 94 = .ok (.iinc 5 1, 3) := by decide +kernel
theorem d_M_age_97 : decode c_M_age 97 = .ok (.goto (-64), 3) := by decide +kernel
theorem d_M_age_100 : decode c_M_age 100 = .ok (.iload 4, 2) := by decide +kernel
theorem d_M_age_102 : decode c_M_age 102 = .ok (.ifCond .ne 13, 3) := by decide +kernel
theorem d_M_age_105 : decode c_M_age 105 = .ok (.new 87, 3) := by decide +kernel
theorem d_M_age_108 : decode c_M_age 108 = .ok (.dup, 1) := by decide +kernel
theorem d_M_age_109 : decode c_M_age 109 = .ok (.ldc 219, 2) := by decide +kernel
theorem d_M_age_111 : decode c_M_age 111 = .ok (.invokespecial 91, 3) := by decide +kernel
theorem d_M_age_114 : decode c_M_age 114 = .ok (.athrow, 1) := by decide +kernel
theorem d_M_age_115 : decode c_M_age 115 = .ok (.iload_n 2, 1) := by decide +kernel
theorem d_M_age_116 : decode c_M_age 116 = .ok (.iload_n 3, 1) := by decide +kernel
theorem d_M_age_117 : decode c_M_age 117 = .ok (.if_icmp .le 13, 3) := by decide +kernel
theorem d_M_age_120 : decode c_M_age 120 = .ok (.new 87, 3) := by decide +kernel
theorem d_M_age_123 : decode c_M_age 123 = .ok (.dup, 1) := by decide +kernel
theorem d_M_age_124 : decode c_M_age 124 = .ok (.ldc 221, 2) := by decide +kernel
theorem d_M_age_126 : decode c_M_age 126 = .ok (.invokespecial 91, 3) := by decide +kernel
theorem d_M_age_129 : decode c_M_age 129 = .ok (.athrow, 1) := by decide +kernel
theorem d_M_age_130 : decode c_M_age 130 = .ok (.iload_n 1, 1) := by decide +kernel
theorem d_M_age_131 : decode c_M_age 131 = .ok (.ifCond .ne 7, 3) := by decide +kernel
theorem d_M_age_134 : decode c_M_age 134 = .ok (.iload_n 2, 1) := by decide +kernel
theorem d_M_age_135 : decode c_M_age 135 = .ok (.goto 4, 3) := by decide +kernel
theorem d_M_age_138 : decode c_M_age 138 = .ok (.iload_n 3, 1) := by decide +kernel
theorem d_M_age_139 : decode c_M_age 139 = .ok (.ireturn, 1) := by decide +kernel
