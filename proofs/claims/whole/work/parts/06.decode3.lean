theorem dX8_mark_0 : decode cX8_mark 0 = .ok (.aload_n 0, 1) := by decide +kernel
theorem dX8_mark_1 : decode cX8_mark 1 = .ok (.iconst 0, 1) := by decide +kernel
theorem dX8_mark_2 : decode cX8_mark 2 = .ok (.putfield 87, 3) := by decide +kernel
theorem dX8_mark_5 : decode cX8_mark 5 = .ok (.aload_n 0, 1) := by decide +kernel
theorem dX8_mark_6 : decode cX8_mark 6 = .ok (.iload_n 1, 1) := by decide +kernel
theorem dX8_mark_7 : decode cX8_mark 7 = .ok (.invokevirtual 116, 3) := by decide +kernel
theorem dX8_mark_10 : decode cX8_mark 10 = .ok (.ifCond .eq 34, 3) := by decide +kernel
theorem dX8_mark_13 : decode cX8_mark 13 = .ok (.iload_n 2, 1) := by decide +kernel
theorem dX8_mark_14 : decode cX8_mark 14 = .ok (.ifCond .lt 30, 3) := by decide +kernel
theorem dX8_mark_17 : decode cX8_mark 17 = .ok (.iload_n 2, 1) := by decide +kernel
theorem dX8_mark_18 : decode cX8_mark 18 = .ok (.aload_n 0, 1) := by decide +kernel
theorem dX8_mark_19 : decode cX8_mark 19 = .ok (.getfield 68, 3) := by decide +kernel
theorem dX8_mark_22 : decode cX8_mark 22 = .ok (.iload_n 1, 1) := by decide +kernel
theorem dX8_mark_23 : decode cX8_mark 23 = .ok (.iaload, 1) := by decide +kernel
theorem dX8_mark_24 : decode cX8_mark 24 = .ok (.if_icmp .ge 20, 3) := by decide +kernel
theorem dX8_mark_27 : decode cX8_mark 27 = .ok (.aload_n 0, 1) := by decide +kernel
theorem dX8_mark_28 : decode cX8_mark 28 = .ok (.getfield 75, 3) := by decide +kernel
theorem dX8_mark_31 : decode cX8_mark 31 = .ok (.bipush 100, 2) := by decide +kernel
theorem dX8_mark_33 : decode cX8_mark 33 = .ok (.iload_n 1, 1) := by decide +kernel
theorem dX8_mark_34 : decode cX8_mark 34 = .ok (.imul, 1) := by decide +kernel
theorem dX8_mark_35 : decode cX8_mark 35 = .ok (.bipush 100, 2) := by decide +kernel
theorem dX8_mark_37 : decode cX8_mark 37 = .ok (.isub, 1) := by decide +kernel
theorem dX8_mark_38 : decode cX8_mark 38 = .ok (.iload_n 2, 1) := by decide +kernel
theorem dX8_mark_39 : decode cX8_mark 39 = .ok (.iadd, 1) := by decide +kernel
theorem dX8_mark_40 : decode cX8_mark 40 = .ok (.iaload, 1) := by decide +kernel
theorem dX8_mark_41 : decode cX8_mark 41 = .ok (.goto 4, 3) := by decide +kernel
theorem dX8_mark_44 : decode cX8_mark 44 = .ok (.iconst (-1), 1) := by decide +kernel
theorem dX8_mark_45 : decode cX8_mark 45 = .ok (.ireturn, 1) := by decide +kernel
theorem dX8_u1_0 : decode cX8_u1 0 = .ok (.aload_n 0, 1) := by decide +kernel
theorem dX8_u1_1 : decode cX8_u1 1 = .ok (.getfield 84, 3) := by decide +kernel
theorem dX8_u1_4 : decode cX8_u1 4 = .ok (.aload_n 0, 1) := by decide +kernel
theorem dX8_u1_5 : decode cX8_u1 5 = .ok (.getfield 135, 3) := by decide +kernel
theorem dX8_u1_8 : decode cX8_u1 8 = .ok (.iload_n 1, 1) := by decide +kernel
theorem dX8_u1_9 : decode cX8_u1 9 = .ok (.sipush 255, 3) := by decide +kernel
theorem dX8_u1_12 : decode cX8_u1 12 = .ok (.iand, 1) := by decide +kernel
theorem dX8_u1_13 : decode cX8_u1 13 = .ok (.iastore, 1) := by decide +kernel
theorem dX8_u1_14 : decode cX8_u1 14 = .ok (.aload_n 0, 1) := by decide +kernel
theorem dX8_u1_15 : decode cX8_u1 15 = .ok (.dup, 1) := by decide +kernel
theorem dX8_u1_16 : decode cX8_u1 16 = .ok (.getfield 135, 3) := by decide +kernel
theorem dX8_u1_19 : decode cX8_u1 19 = .ok (.iconst 1, 1) := by decide +kernel
theorem dX8_u1_20 : decode cX8_u1 20 = .ok (.iadd, 1) := by decide +kernel
theorem dX8_u1_21 : decode cX8_u1 21 = .ok (.putfield 135, 3) := by decide +kernel
theorem dX8_u1_24 : decode cX8_u1 24 = .ok (.return_, 1) := by decide +kernel
theorem dX8_u2_0 : decode cX8_u2 0 = .ok (.aload_n 0, 1) := by decide +kernel
theorem dX8_u2_1 : decode cX8_u2 1 = .ok (.iload_n 1, 1) := by decide +kernel
theorem dX8_u2_2 : decode cX8_u2 2 = .ok (.bipush 8, 2) := by decide +kernel
theorem dX8_u2_4 : decode cX8_u2 4 = .ok (.ishr, 1) := by decide +kernel
theorem dX8_u2_5 : decode cX8_u2 5 = .ok (.invokevirtual 138, 3) := by decide +kernel
theorem dX8_u2_8 : decode cX8_u2 8 = .ok (.aload_n 0, 1) := by decide +kernel
theorem dX8_u2_9 : decode cX8_u2 9 = .ok (.iload_n 1, 1) := by decide +kernel
theorem dX8_u2_10 : decode cX8_u2 10 = .ok (.invokevirtual 138, 3) := by decide +kernel
theorem dX8_u2_13 : decode cX8_u2 13 = .ok (.return_, 1) := by decide +kernel
theorem dX8_u4_0 : decode cX8_u4 0 = .ok (.aload_n 0, 1) := by decide +kernel
theorem dX8_u4_1 : decode cX8_u4 1 = .ok (.iload_n 1, 1) := by decide +kernel
theorem dX8_u4_2 : decode cX8_u4 2 = .ok (.bipush 16, 2) := by decide +kernel
theorem dX8_u4_4 : decode cX8_u4 4 = .ok (.ishr, 1) := by decide +kernel
theorem dX8_u4_5 : decode cX8_u4 5 = .ok (.invokevirtual 142, 3) := by decide +kernel
theorem dX8_u4_8 : decode cX8_u4 8 = .ok (.aload_n 0, 1) := by decide +kernel
theorem dX8_u4_9 : decode cX8_u4 9 = .ok (.iload_n 1, 1) := by decide +kernel
theorem dX8_u4_10 : decode cX8_u4 10 = .ok (.invokevirtual 142, 3) := by decide +kernel
theorem dX8_u4_13 : decode cX8_u4 13 = .ok (.return_, 1) := by decide +kernel
theorem dX8_utf_0 : decode cX8_utf 0 = .ok (.aload_n 0, 1) := by decide +kernel
theorem dX8_utf_1 : decode cX8_utf 1 = .ok (.iconst 1, 1) := by decide +kernel
theorem dX8_utf_2 : decode cX8_utf 2 = .ok (.invokevirtual 138, 3) := by decide +kernel
theorem dX8_utf_5 : decode cX8_utf 5 = .ok (.aload_n 0, 1) := by decide +kernel
theorem dX8_utf_6 : decode cX8_utf 6 = .ok (.getfield 135, 3) := by decide +kernel
theorem dX8_utf_9 : decode cX8_utf 9 = .ok (.istore 5, 2) := by decide +kernel
theorem dX8_utf_11 : decode cX8_utf 11 = .ok (.aload_n 0, 1) := by decide +kernel
theorem dX8_utf_12 : decode cX8_utf 12 = .ok (.iconst 0, 1) := by decide +kernel
theorem dX8_utf_13 : decode cX8_utf 13 = .ok (.invokevirtual 142, 3) := by decide +kernel
theorem dX8_utf_16 : decode cX8_utf 16 = .ok (.aload_n 0, 1) := by decide +kernel
theorem dX8_utf_17 : decode cX8_utf 17 = .ok (.lload_n 1, 1) := by decide +kernel
theorem dX8_utf_18 : decode cX8_utf 18 = .ok (.invokevirtual 145, 3) := by decide +kernel
theorem dX8_utf_21 : decode cX8_utf 21 = .ok (.aload_n 0, 1) := by decide +kernel
theorem dX8_utf_22 : decode cX8_utf 22 = .ok (.lload_n 3, 1) := by decide +kernel
theorem dX8_utf_23 : decode cX8_utf 23 = .ok (.invokevirtual 145, 3) := by decide +kernel
theorem dX8_utf_26 : decode cX8_utf 26 = .ok (.aload_n 0, 1) := by decide +kernel
theorem dX8_utf_27 : decode cX8_utf 27 = .ok (.getfield 84, 3) := by decide +kernel
theorem dX8_utf_30 : decode cX8_utf 30 = .ok (.iload 5, 2) := by decide +kernel
theorem dX8_utf_32 : decode cX8_utf 32 = .ok (.iconst 1, 1) := by decide +kernel
theorem dX8_utf_33 : decode cX8_utf 33 = .ok (.iadd, 1) := by decide +kernel
theorem dX8_utf_34 : decode cX8_utf 34 = .ok (.aload_n 0, 1) := by decide +kernel
theorem dX8_utf_35 : decode cX8_utf 35 = .ok (.getfield 135, 3) := by decide +kernel
theorem dX8_utf_38 : decode cX8_utf 38 = .ok (.iload 5, 2) := by decide +kernel
theorem dX8_utf_40 : decode cX8_utf 40 = .ok (.isub, 1) := by decide +kernel
theorem dX8_utf_41 : decode cX8_utf 41 = .ok (.iconst 2, 1) := by decide +kernel
theorem dX8_utf_42 : decode cX8_utf 42 = .ok (.isub, 1) := by decide +kernel
theorem dX8_utf_43 : decode cX8_utf 43 = .ok (.iastore, 1) := by decide +kernel
theorem dX8_utf_44 : decode cX8_utf 44 = .ok (.return_, 1) := by decide +kernel
theorem dX8_signs_0 : decode cX8_signs 0 = .ok (.bipush 56, 2) := by decide +kernel
theorem dX8_signs_2 : decode cX8_signs 2 = .ok (.istore_n 3, 1) := by decide +kernel
theorem dX8_signs_3 : decode cX8_signs 3 = .ok (.iload_n 3, 1) := by decide +kernel
theorem dX8_signs_4 : decode cX8_signs 4 = .ok (.ifCond .lt 29, 3) := by decide +kernel
theorem dX8_signs_7 : decode cX8_signs 7 = .ok (.lload_n 1, 1) := by decide +kernel
theorem dX8_signs_8 : decode cX8_signs 8 = .ok (.iload_n 3, 1) := by decide +kernel
theorem dX8_signs_9 : decode cX8_signs 9 = .ok (.lshr, 1) := by decide +kernel
theorem dX8_signs_10 : decode cX8_signs 10 = .ok (.ldc2_w 149, 3) := by decide +kernel
theorem dX8_signs_13 : decode cX8_signs 13 = .ok (.land, 1) := by decide +kernel
theorem dX8_signs_14 : decode cX8_signs 14 = .ok (.lconst 0, 1) := by decide +kernel
theorem dX8_signs_15 : decode cX8_signs 15 = .ok (.lcmp, 1) := by decide +kernel
theorem dX8_signs_16 : decode cX8_signs 16 = .ok (.ifCond .eq 11, 3) := by decide +kernel
theorem dX8_signs_19 : decode cX8_signs 19 = .ok (.aload_n 0, 1) := by decide +kernel
theorem dX8_signs_20 : decode cX8_signs 20 = .ok (.lload_n 1, 1) := by decide +kernel
theorem dX8_signs_21 : decode cX8_signs 21 = .ok (.iload_n 3, 1) := by decide +kernel
theorem dX8_signs_22 : decode cX8_signs 22 = .ok (.lshr, 1) := by decide +kernel
theorem dX8_signs_23 : decode cX8_signs 23 = .ok (.l2i, 1) := by decide +kernel
theorem dX8_signs_24 : decode cX8_signs 24 = .ok (.invokevirtual 138, 3) := by decide +kernel
theorem dX8_signs_27 : decode cX8_signs 27 = .ok (.iinc 3 (-8), 3) := by decide +kernel
theorem dX8_signs_30 : decode cX8_signs 30 = .ok (.goto (-27), 3) := by decide +kernel
theorem dX8_signs_33 : decode cX8_signs 33 = .ok (.return_, 1) := by decide +kernel
theorem dX8_pair_0 : decode cX8_pair 0 = .ok (.aload_n 0, 1) := by decide +kernel
theorem dX8_pair_1 : decode cX8_pair 1 = .ok (.iload_n 1, 1) := by decide +kernel
theorem dX8_pair_2 : decode cX8_pair 2 = .ok (.invokevirtual 138, 3) := by decide +kernel
theorem dX8_pair_5 : decode cX8_pair 5 = .ok (.aload_n 0, 1) := by decide +kernel
theorem dX8_pair_6 : decode cX8_pair 6 = .ok (.iload_n 2, 1) := by decide +kernel
theorem dX8_pair_7 : decode cX8_pair 7 = .ok (.invokevirtual 142, 3) := by decide +kernel
theorem dX8_pair_10 : decode cX8_pair 10 = .ok (.aload_n 0, 1) := by decide +kernel
theorem dX8_pair_11 : decode cX8_pair 11 = .ok (.iload_n 3, 1) := by decide +kernel
theorem dX8_pair_12 : decode cX8_pair 12 = .ok (.invokevirtual 142, 3) := by decide +kernel
theorem dX8_pair_15 : decode cX8_pair 15 = .ok (.return_, 1) := by decide +kernel
theorem dX8_classed_0 : decode cX8_classed 0 = .ok (.aload_n 0, 1) := by decide +kernel
theorem dX8_classed_1 : decode cX8_classed 1 = .ok (.bipush 7, 2) := by decide +kernel
theorem dX8_classed_3 : decode cX8_classed 3 = .ok (.invokevirtual 138, 3) := by decide +kernel
theorem dX8_classed_6 : decode cX8_classed 6 = .ok (.aload_n 0, 1) := by decide +kernel
theorem dX8_classed_7 : decode cX8_classed 7 = .ok (.iload_n 1, 1) := by decide +kernel
theorem dX8_classed_8 : decode cX8_classed 8 = .ok (.invokevirtual 142, 3) := by decide +kernel
theorem dX8_classed_11 : decode cX8_classed 11 = .ok (.return_, 1) := by decide +kernel
theorem dX8_named_0 : decode cX8_named 0 = .ok (.iload_n 1, 1) := by decide +kernel
theorem dX8_named_1 : decode cX8_named 1 = .ok (.bipush 10, 2) := by decide +kernel
theorem dX8_named_3 : decode cX8_named 3 = .ok (.if_icmp .ge 17, 3) := by decide +kernel
theorem dX8_named_6 : decode cX8_named 6 = .ok (.iload_n 0, 1) := by decide +kernel
theorem dX8_named_7 : decode cX8_named 7 = .ok (.i2l, 1) := by decide +kernel
theorem dX8_named_8 : decode cX8_named 8 = .ok (.bipush 8, 2) := by decide +kernel
theorem dX8_named_10 : decode cX8_named 10 = .ok (.lshl, 1) := by decide +kernel
theorem dX8_named_11 : decode cX8_named 11 = .ok (.bipush 48, 2) := by decide +kernel
theorem dX8_named_13 : decode cX8_named 13 = .ok (.iload_n 1, 1) := by decide +kernel
theorem dX8_named_14 : decode cX8_named 14 = .ok (.iadd, 1) := by decide +kernel
theorem dX8_named_15 : decode cX8_named 15 = .ok (.i2l, 1) := by decide +kernel
theorem dX8_named_16 : decode cX8_named 16 = .ok (.lor, 1) := by decide +kernel
theorem dX8_named_17 : decode cX8_named 17 = .ok (.goto 29, 3) := by decide +kernel
theorem dX8_named_20 : decode cX8_named 20 = .ok (.iload_n 0, 1) := by decide +kernel
theorem dX8_named_21 : decode cX8_named 21 = .ok (.i2l, 1) := by decide +kernel
theorem dX8_named_22 : decode cX8_named 22 = .ok (.bipush 16, 2) := by decide +kernel
theorem dX8_named_24 : decode cX8_named 24 = .ok (.lshl, 1) := by decide +kernel
theorem dX8_named_25 : decode cX8_named 25 = .ok (.bipush 48, 2) := by decide +kernel
theorem dX8_named_27 : decode cX8_named 27 = .ok (.iload_n 1, 1) := by decide +kernel
theorem dX8_named_28 : decode cX8_named 28 = .ok (.bipush 10, 2) := by decide +kernel
theorem dX8_named_30 : decode cX8_named 30 = .ok (.idiv, 1) := by decide +kernel
theorem dX8_named_31 : decode cX8_named 31 = .ok (.iadd, 1) := by decide +kernel
theorem dX8_named_32 : decode cX8_named 32 = .ok (.bipush 8, 2) := by decide +kernel
theorem dX8_named_34 : decode cX8_named 34 = .ok (.ishl, 1) := by decide +kernel
theorem dX8_named_35 : decode cX8_named 35 = .ok (.i2l, 1) := by decide +kernel
theorem dX8_named_36 : decode cX8_named 36 = .ok (.lor, 1) := by decide +kernel
theorem dX8_named_37 : decode cX8_named 37 = .ok (.bipush 48, 2) := by decide +kernel
theorem dX8_named_39 : decode cX8_named 39 = .ok (.iload_n 1, 1) := by decide +kernel
theorem dX8_named_40 : decode cX8_named 40 = .ok (.bipush 10, 2) := by decide +kernel
theorem dX8_named_42 : decode cX8_named 42 = .ok (.irem, 1) := by decide +kernel
theorem dX8_named_43 : decode cX8_named 43 = .ok (.iadd, 1) := by decide +kernel
theorem dX8_named_44 : decode cX8_named 44 = .ok (.i2l, 1) := by decide +kernel
theorem dX8_named_45 : decode cX8_named 45 = .ok (.lor, 1) := by decide +kernel
theorem dX8_named_46 : decode cX8_named 46 = .ok (.lreturn, 1) := by decide +kernel
theorem dX8_constants_0 : decode cX8_constants 0 = .ok (.aload_n 0, 1) := by decide +kernel
theorem dX8_constants_1 : decode cX8_constants 1 = .ok (.bipush 28, 2) := by decide +kernel
theorem dX8_constants_3 : decode cX8_constants 3 = .ok (.iload_n 2, 1) := by decide +kernel
theorem dX8_constants_4 : decode cX8_constants 4 = .ok (.iadd, 1) := by decide +kernel
theorem dX8_constants_5 : decode cX8_constants 5 = .ok (.invokevirtual 142, 3) := by decide +kernel
theorem dX8_constants_8 : decode cX8_constants 8 = .ok (.aload_n 0, 1) := by decide +kernel
theorem dX8_constants_9 : decode cX8_constants 9 = .ok (.bipush 80, 2) := by decide +kernel
theorem dX8_constants_11 : decode cX8_constants 11 = .ok (.iload_n 1, 1) := by decide +kernel
theorem dX8_constants_12 : decode cX8_constants 12 = .ok (.invokestatic 151, 3) := by decide +kernel
theorem dX8_constants_15 : decode cX8_constants 15 = .ok (.lconst 0, 1) := by decide +kernel
theorem dX8_constants_16 : decode cX8_constants 16 = .ok (.invokevirtual 155, 3) := by decide +kernel
theorem dX8_constants_19 : decode cX8_constants 19 = .ok (.aload_n 0, 1) := by decide +kernel
theorem dX8_constants_20 : decode cX8_constants 20 = .ok (.iconst 1, 1) := by decide +kernel
theorem dX8_constants_21 : decode cX8_constants 21 = .ok (.invokevirtual 159, 3) := by decide +kernel
theorem dX8_constants_24 : decode cX8_constants 24 = .ok (.aload_n 0, 1) := by decide +kernel
theorem dX8_constants_25 : decode cX8_constants 25 = .ok (.ldc2_w 162, 3) := by decide +kernel
theorem dX8_constants_28 : decode cX8_constants 28 = .ok (.ldc2_w 164, 3) := by decide +kernel
theorem dX8_constants_31 : decode cX8_constants 31 = .ok (.invokevirtual 155, 3) := by decide +kernel
theorem dX8_constants_34 : decode cX8_constants 34 = .ok (.aload_n 0, 1) := by decide +kernel
theorem dX8_constants_35 : decode cX8_constants 35 = .ok (.iconst 3, 1) := by decide +kernel
theorem dX8_constants_36 : decode cX8_constants 36 = .ok (.invokevirtual 159, 3) := by decide +kernel
theorem dX8_constants_39 : decode cX8_constants 39 = .ok (.aload_n 0, 1) := by decide +kernel
theorem dX8_constants_40 : decode cX8_constants 40 = .ok (.ldc2_w 166, 3) := by decide +kernel
theorem dX8_constants_43 : decode cX8_constants 43 = .ok (.lconst 0, 1) := by decide +kernel
theorem dX8_constants_44 : decode cX8_constants 44 = .ok (.invokevirtual 155, 3) := by decide +kernel
theorem dX8_constants_47 : decode cX8_constants 47 = .ok (.aload_n 0, 1) := by decide +kernel
theorem dX8_constants_48 : decode cX8_constants 48 = .ok (.ldc2_w 168, 3) := by decide +kernel
theorem dX8_constants_51 : decode cX8_constants 51 = .ok (.lconst 0, 1) := by decide +kernel
theorem dX8_constants_52 : decode cX8_constants 52 = .ok (.invokevirtual 155, 3) := by decide +kernel
theorem dX8_constants_55 : decode cX8_constants 55 = .ok (.aload_n 0, 1) := by decide +kernel
theorem dX8_constants_56 : decode cX8_constants 56 = .ok (.bipush 12, 2) := by decide +kernel
theorem dX8_constants_58 : decode cX8_constants 58 = .ok (.iconst 5, 1) := by decide +kernel
theorem dX8_constants_59 : decode cX8_constants 59 = .ok (.bipush 6, 2) := by decide +kernel
theorem dX8_constants_61 : decode cX8_constants 61 = .ok (.invokevirtual 170, 3) := by decide +kernel
theorem dX8_constants_64 : decode cX8_constants 64 = .ok (.aload_n 0, 1) := by decide +kernel
theorem dX8_constants_65 : decode cX8_constants 65 = .ok (.bipush 9, 2) := by decide +kernel
theorem dX8_constants_67 : decode cX8_constants 67 = .ok (.iconst 2, 1) := by decide +kernel
theorem dX8_constants_68 : decode cX8_constants 68 = .ok (.bipush 7, 2) := by decide +kernel
theorem dX8_constants_70 : decode cX8_constants 70 = .ok (.invokevirtual 170, 3) := by decide +kernel
theorem dX8_constants_73 : decode cX8_constants 73 = .ok (.aload_n 0, 1) := by decide +kernel
theorem dX8_constants_74 : decode cX8_constants 74 = .ok (.ldc2_w 174, 3) := by decide +kernel
theorem dX8_constants_77 : decode cX8_constants 77 = .ok (.lconst 0, 1) := by decide +kernel
theorem dX8_constants_78 : decode cX8_constants 78 = .ok (.invokevirtual 155, 3) := by decide +kernel
theorem dX8_constants_81 : decode cX8_constants 81 = .ok (.aload_n 0, 1) := by decide +kernel
theorem dX8_constants_82 : decode cX8_constants 82 = .ok (.bipush 9, 2) := by decide +kernel
theorem dX8_constants_84 : decode cX8_constants 84 = .ok (.invokevirtual 159, 3) := by decide +kernel
theorem dX8_constants_87 : decode cX8_constants 87 = .ok (.aload_n 0, 1) := by decide +kernel
theorem dX8_constants_88 : decode cX8_constants 88 = .ok (.ldc2_w 176, 3) := by decide +kernel
theorem dX8_constants_91 : decode cX8_constants 91 = .ok (.lconst 0, 1) := by decide +kernel
theorem dX8_constants_92 : decode cX8_constants 92 = .ok (.invokevirtual 155, 3) := by decide +kernel
theorem dX8_constants_95 : decode cX8_constants 95 = .ok (.aload_n 0, 1) := by decide +kernel
theorem dX8_constants_96 : decode cX8_constants 96 = .ok (.ldc2_w 178, 3) := by decide +kernel
theorem dX8_constants_99 : decode cX8_constants 99 = .ok (.lconst 0, 1) := by decide +kernel
theorem dX8_constants_100 : decode cX8_constants 100 = .ok (.invokevirtual 155, 3) := by decide +kernel
theorem dX8_constants_103 : decode cX8_constants 103 = .ok (.aload_n 0, 1) := by decide +kernel
theorem dX8_constants_104 : decode cX8_constants 104 = .ok (.bipush 12, 2) := by decide +kernel
theorem dX8_constants_106 : decode cX8_constants 106 = .ok (.bipush 11, 2) := by decide +kernel
theorem dX8_constants_108 : decode cX8_constants 108 = .ok (.bipush 12, 2) := by decide +kernel
theorem dX8_constants_110 : decode cX8_constants 110 = .ok (.invokevirtual 170, 3) := by decide +kernel
theorem dX8_constants_113 : decode cX8_constants 113 = .ok (.aload_n 0, 1) := by decide +kernel
theorem dX8_constants_114 : decode cX8_constants 114 = .ok (.bipush 10, 2) := by decide +kernel
theorem dX8_constants_116 : decode cX8_constants 116 = .ok (.bipush 10, 2) := by decide +kernel
theorem dX8_constants_118 : decode cX8_constants 118 = .ok (.bipush 13, 2) := by decide +kernel
theorem dX8_constants_120 : decode cX8_constants 120 = .ok (.invokevirtual 170, 3) := by decide +kernel
theorem dX8_constants_123 : decode cX8_constants 123 = .ok (.aload_n 0, 1) := by decide +kernel
theorem dX8_constants_124 : decode cX8_constants 124 = .ok (.ldc2_w 180, 3) := by decide +kernel
theorem dX8_constants_127 : decode cX8_constants 127 = .ok (.lconst 0, 1) := by decide +kernel
theorem dX8_constants_128 : decode cX8_constants 128 = .ok (.invokevirtual 155, 3) := by decide +kernel
theorem dX8_constants_131 : decode cX8_constants 131 = .ok (.aload_n 0, 1) := by decide +kernel
theorem dX8_constants_132 : decode cX8_constants 132 = .ok (.bipush 12, 2) := by decide +kernel
theorem dX8_constants_134 : decode cX8_constants 134 = .ok (.bipush 15, 2) := by decide +kernel
theorem dX8_constants_136 : decode cX8_constants 136 = .ok (.bipush 12, 2) := by decide +kernel
theorem dX8_constants_138 : decode cX8_constants 138 = .ok (.invokevirtual 170, 3) := by decide +kernel
theorem dX8_constants_141 : decode cX8_constants 141 = .ok (.aload_n 0, 1) := by decide +kernel
theorem dX8_constants_142 : decode cX8_constants 142 = .ok (.bipush 10, 2) := by decide +kernel
theorem dX8_constants_144 : decode cX8_constants 144 = .ok (.bipush 10, 2) := by decide +kernel
theorem dX8_constants_146 : decode cX8_constants 146 = .ok (.bipush 16, 2) := by decide +kernel
theorem dX8_constants_148 : decode cX8_constants 148 = .ok (.invokevirtual 170, 3) := by decide +kernel
theorem dX8_constants_151 : decode cX8_constants 151 = .ok (.aload_n 0, 1) := by decide +kernel
theorem dX8_constants_152 : decode cX8_constants 152 = .ok (.ldc2_w 182, 3) := by decide +kernel
theorem dX8_constants_155 : decode cX8_constants 155 = .ok (.lconst 0, 1) := by decide +kernel
theorem dX8_constants_156 : decode cX8_constants 156 = .ok (.invokevirtual 155, 3) := by decide +kernel
theorem dX8_constants_159 : decode cX8_constants 159 = .ok (.aload_n 0, 1) := by decide +kernel
theorem dX8_constants_160 : decode cX8_constants 160 = .ok (.bipush 12, 2) := by decide +kernel
theorem dX8_constants_162 : decode cX8_constants 162 = .ok (.bipush 18, 2) := by decide +kernel
theorem dX8_constants_164 : decode cX8_constants 164 = .ok (.bipush 12, 2) := by decide +kernel
theorem dX8_constants_166 : decode cX8_constants 166 = .ok (.invokevirtual 170, 3) := by decide +kernel
theorem dX8_constants_169 : decode cX8_constants 169 = .ok (.aload_n 0, 1) := by decide +kernel
theorem dX8_constants_170 : decode cX8_constants 170 = .ok (.bipush 10, 2) := by decide +kernel
theorem dX8_constants_172 : decode cX8_constants 172 = .ok (.bipush 10, 2) := by decide +kernel
theorem dX8_constants_174 : decode cX8_constants 174 = .ok (.bipush 19, 2) := by decide +kernel
theorem dX8_constants_176 : decode cX8_constants 176 = .ok (.invokevirtual 170, 3) := by decide +kernel
theorem dX8_constants_179 : decode cX8_constants 179 = .ok (.aload_n 0, 1) := by decide +kernel
theorem dX8_constants_180 : decode cX8_constants 180 = .ok (.ldc2_w 184, 3) := by decide +kernel
theorem dX8_constants_183 : decode cX8_constants 183 = .ok (.lconst 0, 1) := by decide +kernel
theorem dX8_constants_184 : decode cX8_constants 184 = .ok (.invokevirtual 155, 3) := by decide +kernel
theorem dX8_constants_187 : decode cX8_constants 187 = .ok (.aload_n 0, 1) := by decide +kernel
theorem dX8_constants_188 : decode cX8_constants 188 = .ok (.bipush 12, 2) := by decide +kernel
theorem dX8_constants_190 : decode cX8_constants 190 = .ok (.bipush 21, 2) := by decide +kernel
theorem dX8_constants_192 : decode cX8_constants 192 = .ok (.bipush 12, 2) := by decide +kernel
theorem dX8_constants_194 : decode cX8_constants 194 = .ok (.invokevirtual 170, 3) := by decide +kernel
theorem dX8_constants_197 : decode cX8_constants 197 = .ok (.aload_n 0, 1) := by decide +kernel
theorem dX8_constants_198 : decode cX8_constants 198 = .ok (.bipush 10, 2) := by decide +kernel
theorem dX8_constants_200 : decode cX8_constants 200 = .ok (.bipush 10, 2) := by decide +kernel
theorem dX8_constants_202 : decode cX8_constants 202 = .ok (.bipush 22, 2) := by decide +kernel
theorem dX8_constants_204 : decode cX8_constants 204 = .ok (.invokevirtual 170, 3) := by decide +kernel
theorem dX8_constants_207 : decode cX8_constants 207 = .ok (.aload_n 0, 1) := by decide +kernel
theorem dX8_constants_208 : decode cX8_constants 208 = .ok (.ldc2_w 186, 3) := by decide +kernel
theorem dX8_constants_211 : decode cX8_constants 211 = .ok (.lconst 0, 1) := by decide +kernel
theorem dX8_constants_212 : decode cX8_constants 212 = .ok (.invokevirtual 155, 3) := by decide +kernel
theorem dX8_constants_215 : decode cX8_constants 215 = .ok (.aload_n 0, 1) := by decide +kernel
theorem dX8_constants_216 : decode cX8_constants 216 = .ok (.ldc2_w 188, 3) := by decide +kernel
theorem dX8_constants_219 : decode cX8_constants 219 = .ok (.lconst 0, 1) := by decide +kernel
theorem dX8_constants_220 : decode cX8_constants 220 = .ok (.invokevirtual 155, 3) := by decide +kernel
theorem dX8_constants_223 : decode cX8_constants 223 = .ok (.aload_n 0, 1) := by decide +kernel
theorem dX8_constants_224 : decode cX8_constants 224 = .ok (.ldc2_w 190, 3) := by decide +kernel
theorem dX8_constants_227 : decode cX8_constants 227 = .ok (.lconst 0, 1) := by decide +kernel
theorem dX8_constants_228 : decode cX8_constants 228 = .ok (.invokevirtual 155, 3) := by decide +kernel
theorem dX8_constants_231 : decode cX8_constants 231 = .ok (.aload_n 0, 1) := by decide +kernel
theorem dX8_constants_232 : decode cX8_constants 232 = .ok (.ldc2_w 192, 3) := by decide +kernel
theorem dX8_constants_235 : decode cX8_constants 235 = .ok (.lconst 0, 1) := by decide +kernel
theorem dX8_constants_236 : decode cX8_constants 236 = .ok (.invokevirtual 155, 3) := by decide +kernel
theorem dX8_constants_239 : decode cX8_constants 239 = .ok (.iconst 0, 1) := by decide +kernel
theorem dX8_constants_240 : decode cX8_constants 240 = .ok (.istore_n 3, 1) := by decide +kernel
theorem dX8_constants_241 : decode cX8_constants 241 = .ok (.iload_n 3, 1) := by decide +kernel
theorem dX8_constants_242 : decode cX8_constants 242 = .ok (.iload_n 2, 1) := by decide +kernel
theorem dX8_constants_243 : decode cX8_constants 243 = .ok (.if_icmp .ge 20, 3) := by decide +kernel
theorem dX8_constants_246 : decode cX8_constants 246 = .ok (.aload_n 0, 1) := by decide +kernel
theorem dX8_constants_247 : decode cX8_constants 247 = .ok (.bipush 109, 2) := by decide +kernel
theorem dX8_constants_249 : decode cX8_constants 249 = .ok (.iload_n 3, 1) := by decide +kernel
theorem dX8_constants_250 : decode cX8_constants 250 = .ok (.invokestatic 151, 3) := by decide +kernel
theorem dX8_constants_253 : decode cX8_constants 253 = .ok (.lconst 0, 1) := by decide +kernel
theorem dX8_constants_254 : decode cX8_constants 254 = .ok (.invokevirtual 155, 3) := by decide +kernel
theorem dX8_constants_257 : decode cX8_constants 257 = .ok (.iinc 3 1, 3) := by decide +kernel
theorem dX8_constants_260 : decode cX8_constants 260 = .ok (.goto (-19), 3) := by decide +kernel
theorem dX8_constants_263 : decode cX8_constants 263 = .ok (.return_, 1) := by decide +kernel
theorem dX8_method_0 : decode cX8_method 0 = .ok (.aload_n 0, 1) := by decide +kernel
theorem dX8_method_1 : decode cX8_method 1 = .ok (.bipush 8, 2) := by decide +kernel
theorem dX8_method_3 : decode cX8_method 3 = .ok (.invokevirtual 142, 3) := by decide +kernel
theorem dX8_method_6 : decode cX8_method 6 = .ok (.aload_n 0, 1) := by decide +kernel
theorem dX8_method_7 : decode cX8_method 7 = .ok (.iload_n 1, 1) := by decide +kernel
theorem dX8_method_8 : decode cX8_method 8 = .ok (.invokevirtual 142, 3) := by decide +kernel
theorem dX8_method_11 : decode cX8_method 11 = .ok (.aload_n 0, 1) := by decide +kernel
theorem dX8_method_12 : decode cX8_method 12 = .ok (.iload_n 2, 1) := by decide +kernel
theorem dX8_method_13 : decode cX8_method 13 = .ok (.invokevirtual 142, 3) := by decide +kernel
theorem dX8_method_16 : decode cX8_method 16 = .ok (.aload_n 0, 1) := by decide +kernel
theorem dX8_method_17 : decode cX8_method 17 = .ok (.iconst 1, 1) := by decide +kernel
theorem dX8_method_18 : decode cX8_method 18 = .ok (.invokevirtual 142, 3) := by decide +kernel
theorem dX8_method_21 : decode cX8_method 21 = .ok (.aload_n 0, 1) := by decide +kernel
theorem dX8_method_22 : decode cX8_method 22 = .ok (.bipush 24, 2) := by decide +kernel
theorem dX8_method_24 : decode cX8_method 24 = .ok (.invokevirtual 142, 3) := by decide +kernel
theorem dX8_method_27 : decode cX8_method 27 = .ok (.aload_n 0, 1) := by decide +kernel
theorem dX8_method_28 : decode cX8_method 28 = .ok (.bipush 12, 2) := by decide +kernel
theorem dX8_method_30 : decode cX8_method 30 = .ok (.iload 5, 2) := by decide +kernel
theorem dX8_method_32 : decode cX8_method 32 = .ok (.iadd, 1) := by decide +kernel
theorem dX8_method_33 : decode cX8_method 33 = .ok (.invokevirtual 194, 3) := by decide +kernel
theorem dX8_method_36 : decode cX8_method 36 = .ok (.aload_n 0, 1) := by decide +kernel
theorem dX8_method_37 : decode cX8_method 37 = .ok (.iload_n 3, 1) := by decide +kernel
theorem dX8_method_38 : decode cX8_method 38 = .ok (.invokevirtual 142, 3) := by decide +kernel
theorem dX8_method_41 : decode cX8_method 41 = .ok (.aload_n 0, 1) := by decide +kernel
theorem dX8_method_42 : decode cX8_method 42 = .ok (.iload 4, 2) := by decide +kernel
theorem dX8_method_44 : decode cX8_method 44 = .ok (.invokevirtual 142, 3) := by decide +kernel
theorem dX8_method_47 : decode cX8_method 47 = .ok (.aload_n 0, 1) := by decide +kernel
theorem dX8_method_48 : decode cX8_method 48 = .ok (.iload 5, 2) := by decide +kernel
theorem dX8_method_50 : decode cX8_method 50 = .ok (.invokevirtual 194, 3) := by decide +kernel
theorem dX8_method_53 : decode cX8_method 53 = .ok (.return_, 1) := by decide +kernel
theorem dX8_isWithin_0 : decode cX8_isWithin 0 = .ok (.iload_n 0, 1) := by decide +kernel
theorem dX8_isWithin_1 : decode cX8_isWithin 1 = .ok (.iload_n 1, 1) := by decide +kernel
theorem dX8_isWithin_2 : decode cX8_isWithin 2 = .ok (.if_icmp .lt 12, 3) := by decide +kernel
theorem dX8_isWithin_5 : decode cX8_isWithin 5 = .ok (.iload_n 0, 1) := by decide +kernel
theorem dX8_isWithin_6 : decode cX8_isWithin 6 = .ok (.iload_n 2, 1) := by decide +kernel
theorem dX8_isWithin_7 : decode cX8_isWithin 7 = .ok (.if_icmp .gt 7, 3) := by decide +kernel
theorem dX8_isWithin_10 : decode cX8_isWithin 10 = .ok (.iconst 1, 1) := by decide +kernel
theorem dX8_isWithin_11 : decode cX8_isWithin 11 = .ok (.goto 4, 3) := by decide +kernel
theorem dX8_isWithin_14 : decode cX8_isWithin 14 = .ok (.iconst 0, 1) := by decide +kernel
theorem dX8_isWithin_15 : decode cX8_isWithin 15 = .ok (.ireturn, 1) := by decide +kernel
theorem dX8_going_0 : decode cX8_going 0 = .ok (.iload_n 1, 1) := by decide +kernel
theorem dX8_going_1 : decode cX8_going 1 = .ok (.iload_n 2, 1) := by decide +kernel
theorem dX8_going_2 : decode cX8_going 2 = .ok (.iload_n 3, 1) := by decide +kernel
theorem dX8_going_3 : decode cX8_going 3 = .ok (.invokestatic 197, 3) := by decide +kernel
theorem dX8_going_6 : decode cX8_going 6 = .ok (.ifCond .eq 7, 3) := by decide +kernel
theorem dX8_going_9 : decode cX8_going 9 = .ok (.iconst 3, 1) := by decide +kernel
theorem dX8_going_10 : decode cX8_going 10 = .ok (.goto 4, 3) := by decide +kernel
theorem dX8_going_13 : decode cX8_going 13 = .ok (.iconst 4, 1) := by decide +kernel
theorem dX8_going_14 : decode cX8_going 14 = .ok (.ireturn, 1) := by decide +kernel
theorem dX8_bytesOf_0 : decode cX8_bytesOf 0 = .ok (.aload_n 0, 1) := by decide +kernel
theorem dX8_bytesOf_1 : decode cX8_bytesOf 1 = .ok (.getfield 16, 3) := by decide +kernel
theorem dX8_bytesOf_4 : decode cX8_bytesOf 4 = .ok (.iload_n 1, 1) := by decide +kernel
theorem dX8_bytesOf_5 : decode cX8_bytesOf 5 = .ok (.iaload, 1) := by decide +kernel
theorem dX8_bytesOf_6 : decode cX8_bytesOf 6 = .ok (.tableswitch 110 0 13 #[70, 73, 110, 110, 110, 110, 110, 76, 79, 95, 108, 108, 108, 76], 70) := by decide +kernel
theorem dX8_bytesOf_76 : decode cX8_bytesOf 76 = .ok (.bipush 8, 2) := by decide +kernel
theorem dX8_bytesOf_78 : decode cX8_bytesOf 78 = .ok (.ireturn, 1) := by decide +kernel
theorem dX8_bytesOf_79 : decode cX8_bytesOf 79 = .ok (.bipush 12, 2) := by decide +kernel
theorem dX8_bytesOf_81 : decode cX8_bytesOf 81 = .ok (.ireturn, 1) := by decide +kernel
theorem dX8_bytesOf_82 : decode cX8_bytesOf 82 = .ok (.bipush 16, 2) := by decide +kernel
theorem dX8_bytesOf_84 : decode cX8_bytesOf 84 = .ok (.ireturn, 1) := by decide +kernel
theorem dX8_bytesOf_85 : decode cX8_bytesOf 85 = .ok (.bipush 9, 2) := by decide +kernel
theorem dX8_bytesOf_87 : decode cX8_bytesOf 87 = .ok (.aload_n 0, 1) := by decide +kernel
theorem dX8_bytesOf_88 : decode cX8_bytesOf 88 = .ok (.aload_n 0, 1) := by decide +kernel
theorem dX8_bytesOf_89 : decode cX8_bytesOf 89 = .ok (.getfield 22, 3) := by decide +kernel
theorem dX8_bytesOf_92 : decode cX8_bytesOf 92 = .ok (.iload_n 1, 1) := by decide +kernel
theorem dX8_bytesOf_93 : decode cX8_bytesOf 93 = .ok (.iaload, 1) := by decide +kernel
theorem dX8_bytesOf_94 : decode cX8_bytesOf 94 = .ok (.iload_n 2, 1) := by decide +kernel
theorem dX8_bytesOf_95 : decode cX8_bytesOf 95 = .ok (.iload_n 3, 1) := by decide +kernel
theorem dX8_bytesOf_96 : decode cX8_bytesOf 96 = .ok (.invokevirtual 200, 3) := by decide +kernel
theorem dX8_bytesOf_99 : decode cX8_bytesOf 99 = .ok (.iadd, 1) := by decide +kernel
theorem dX8_bytesOf_100 : decode cX8_bytesOf 100 = .ok (.ireturn, 1) := by decide +kernel
theorem dX8_bytesOf_101 : decode cX8_bytesOf 101 = .ok (.aload_n 0, 1) := by decide +kernel
theorem dX8_bytesOf_102 : decode cX8_bytesOf 102 = .ok (.aload_n 0, 1) := by decide +kernel
theorem dX8_bytesOf_103 : decode cX8_bytesOf 103 = .ok (.getfield 22, 3) := by decide +kernel
theorem dX8_bytesOf_106 : decode cX8_bytesOf 106 = .ok (.iload_n 1, 1) := by decide +kernel
theorem dX8_bytesOf_107 : decode cX8_bytesOf 107 = .ok (.iaload, 1) := by decide +kernel
theorem dX8_bytesOf_108 : decode cX8_bytesOf 108 = .ok (.iload_n 2, 1) := by decide +kernel
theorem dX8_bytesOf_109 : decode cX8_bytesOf 109 = .ok (.iload_n 3, 1) := by decide +kernel
theorem dX8_bytesOf_110 : decode cX8_bytesOf 110 = .ok (.invokevirtual 200, 3) := by decide +kernel
theorem dX8_bytesOf_113 : decode cX8_bytesOf 113 = .ok (.ireturn, 1) := by decide +kernel
theorem dX8_bytesOf_114 : decode cX8_bytesOf 114 = .ok (.iconst 5, 1) := by decide +kernel
theorem dX8_bytesOf_115 : decode cX8_bytesOf 115 = .ok (.ireturn, 1) := by decide +kernel
theorem dX8_bytesOf_116 : decode cX8_bytesOf 116 = .ok (.bipush 20, 2) := by decide +kernel
theorem dX8_bytesOf_118 : decode cX8_bytesOf 118 = .ok (.ireturn, 1) := by decide +kernel
theorem dX8_begins_0 : decode cX8_begins 0 = .ok (.bipush 16, 2) := by decide +kernel
theorem dX8_begins_2 : decode cX8_begins 2 = .ok (.iconst 4, 1) := by decide +kernel
theorem dX8_begins_3 : decode cX8_begins 3 = .ok (.iload 4, 2) := by decide +kernel
theorem dX8_begins_5 : decode cX8_begins 5 = .ok (.iload_n 3, 1) := by decide +kernel
theorem dX8_begins_6 : decode cX8_begins 6 = .ok (.isub, 1) := by decide +kernel
theorem dX8_begins_7 : decode cX8_begins 7 = .ok (.iconst 1, 1) := by decide +kernel
theorem dX8_begins_8 : decode cX8_begins 8 = .ok (.iadd, 1) := by decide +kernel
theorem dX8_begins_9 : decode cX8_begins 9 = .ok (.imul, 1) := by decide +kernel
theorem dX8_begins_10 : decode cX8_begins 10 = .ok (.iadd, 1) := by decide +kernel
theorem dX8_begins_11 : decode cX8_begins 11 = .ok (.istore 5, 2) := by decide +kernel
theorem dX8_begins_13 : decode cX8_begins 13 = .ok (.iload_n 3, 1) := by decide +kernel
theorem dX8_begins_14 : decode cX8_begins 14 = .ok (.istore 6, 2) := by decide +kernel
theorem dX8_begins_16 : decode cX8_begins 16 = .ok (.iload 6, 2) := by decide +kernel
theorem dX8_begins_18 : decode cX8_begins 18 = .ok (.iload_n 2, 1) := by decide +kernel
theorem dX8_begins_19 : decode cX8_begins 19 = .ok (.if_icmp .ge 28, 3) := by decide +kernel
theorem dX8_begins_22 : decode cX8_begins 22 = .ok (.iload 5, 2) := by decide +kernel
theorem dX8_begins_24 : decode cX8_begins 24 = .ok (.aload_n 0, 1) := by decide +kernel
theorem dX8_begins_25 : decode cX8_begins 25 = .ok (.bipush 60, 2) := by decide +kernel
theorem dX8_begins_27 : decode cX8_begins 27 = .ok (.iload_n 1, 1) := by decide +kernel
theorem dX8_begins_28 : decode cX8_begins 28 = .ok (.imul, 1) := by decide +kernel
theorem dX8_begins_29 : decode cX8_begins 29 = .ok (.iload 6, 2) := by decide +kernel
theorem dX8_begins_31 : decode cX8_begins 31 = .ok (.iadd, 1) := by decide +kernel
theorem dX8_begins_32 : decode cX8_begins 32 = .ok (.iload_n 3, 1) := by decide +kernel
theorem dX8_begins_33 : decode cX8_begins 33 = .ok (.iload 4, 2) := by decide +kernel
theorem dX8_begins_35 : decode cX8_begins 35 = .ok (.invokevirtual 204, 3) := by decide +kernel
theorem dX8_begins_38 : decode cX8_begins 38 = .ok (.iadd, 1) := by decide +kernel
theorem dX8_begins_39 : decode cX8_begins 39 = .ok (.istore 5, 2) := by decide +kernel
theorem dX8_begins_41 : decode cX8_begins 41 = .ok (.iinc 6 1, 3) := by decide +kernel
theorem dX8_begins_44 : decode cX8_begins 44 = .ok (.goto (-28), 3) := by decide +kernel
theorem dX8_begins_47 : decode cX8_begins 47 = .ok (.iload 5, 2) := by decide +kernel
theorem dX8_begins_49 : decode cX8_begins 49 = .ok (.ireturn, 1) := by decide +kernel
theorem dX8_words_0 : decode cX8_words 0 = .ok (.aload_n 0, 1) := by decide +kernel
theorem dX8_words_1 : decode cX8_words 1 = .ok (.sipush 178, 3) := by decide +kernel
theorem dX8_words_4 : decode cX8_words 4 = .ok (.invokevirtual 138, 3) := by decide +kernel
theorem dX8_words_7 : decode cX8_words 7 = .ok (.aload_n 0, 1) := by decide +kernel
theorem dX8_words_8 : decode cX8_words 8 = .ok (.bipush 8, 2) := by decide +kernel
theorem dX8_words_10 : decode cX8_words 10 = .ok (.invokevirtual 142, 3) := by decide +kernel
theorem dX8_words_13 : decode cX8_words 13 = .ok (.return_, 1) := by decide +kernel
theorem dX8_push_0 : decode cX8_push 0 = .ok (.aload_n 0, 1) := by decide +kernel
theorem dX8_push_1 : decode cX8_push 1 = .ok (.bipush 16, 2) := by decide +kernel
theorem dX8_push_3 : decode cX8_push 3 = .ok (.invokevirtual 138, 3) := by decide +kernel
theorem dX8_push_6 : decode cX8_push 6 = .ok (.aload_n 0, 1) := by decide +kernel
theorem dX8_push_7 : decode cX8_push 7 = .ok (.iload_n 1, 1) := by decide +kernel
theorem dX8_push_8 : decode cX8_push 8 = .ok (.invokevirtual 138, 3) := by decide +kernel
theorem dX8_push_11 : decode cX8_push 11 = .ok (.return_, 1) := by decide +kernel
theorem dX8_load_0 : decode cX8_load 0 = .ok (.aload_n 0, 1) := by decide +kernel
theorem dX8_load_1 : decode cX8_load 1 = .ok (.invokevirtual 207, 3) := by decide +kernel
theorem dX8_load_4 : decode cX8_load 4 = .ok (.aload_n 0, 1) := by decide +kernel
theorem dX8_load_5 : decode cX8_load 5 = .ok (.iload_n 1, 1) := by decide +kernel
theorem dX8_load_6 : decode cX8_load 6 = .ok (.invokevirtual 210, 3) := by decide +kernel
theorem dX8_load_9 : decode cX8_load 9 = .ok (.aload_n 0, 1) := by decide +kernel
theorem dX8_load_10 : decode cX8_load 10 = .ok (.bipush 51, 2) := by decide +kernel
theorem dX8_load_12 : decode cX8_load 12 = .ok (.invokevirtual 138, 3) := by decide +kernel
theorem dX8_load_15 : decode cX8_load 15 = .ok (.return_, 1) := by decide +kernel
theorem dX8_goes_0 : decode cX8_goes 0 = .ok (.iload_n 2, 1) := by decide +kernel
theorem dX8_goes_1 : decode cX8_goes 1 = .ok (.iload_n 3, 1) := by decide +kernel
theorem dX8_goes_2 : decode cX8_goes 2 = .ok (.iload 4, 2) := by decide +kernel
theorem dX8_goes_4 : decode cX8_goes 4 = .ok (.invokestatic 197, 3) := by decide +kernel
theorem dX8_goes_7 : decode cX8_goes 7 = .ok (.ifCond .eq 27, 3) := by decide +kernel
theorem dX8_goes_10 : decode cX8_goes 10 = .ok (.aload_n 0, 1) := by decide +kernel
theorem dX8_goes_11 : decode cX8_goes 11 = .ok (.sipush 167, 3) := by decide +kernel
theorem dX8_goes_14 : decode cX8_goes 14 = .ok (.invokevirtual 138, 3) := by decide +kernel
theorem dX8_goes_17 : decode cX8_goes 17 = .ok (.aload_n 0, 1) := by decide +kernel
theorem dX8_goes_18 : decode cX8_goes 18 = .ok (.aload_n 0, 1) := by decide +kernel
theorem dX8_goes_19 : decode cX8_goes 19 = .ok (.iload_n 1, 1) := by decide +kernel
theorem dX8_goes_20 : decode cX8_goes 20 = .ok (.iload_n 2, 1) := by decide +kernel
theorem dX8_goes_21 : decode cX8_goes 21 = .ok (.iload_n 3, 1) := by decide +kernel
theorem dX8_goes_22 : decode cX8_goes 22 = .ok (.iload 4, 2) := by decide +kernel
theorem dX8_goes_24 : decode cX8_goes 24 = .ok (.invokevirtual 213, 3) := by decide +kernel
theorem dX8_goes_27 : decode cX8_goes 27 = .ok (.iload 5, 2) := by decide +kernel
theorem dX8_goes_29 : decode cX8_goes 29 = .ok (.isub, 1) := by decide +kernel
theorem dX8_goes_30 : decode cX8_goes 30 = .ok (.invokevirtual 142, 3) := by decide +kernel
theorem dX8_goes_33 : decode cX8_goes 33 = .ok (.return_, 1) := by decide +kernel
theorem dX8_goes_34 : decode cX8_goes 34 = .ok (.aload_n 0, 1) := by decide +kernel
theorem dX8_goes_35 : decode cX8_goes 35 = .ok (.bipush 17, 2) := by decide +kernel
theorem dX8_goes_37 : decode cX8_goes 37 = .ok (.invokevirtual 138, 3) := by decide +kernel
theorem dX8_goes_40 : decode cX8_goes 40 = .ok (.aload_n 0, 1) := by decide +kernel
theorem dX8_goes_41 : decode cX8_goes 41 = .ok (.iload_n 2, 1) := by decide +kernel
theorem dX8_goes_42 : decode cX8_goes 42 = .ok (.invokevirtual 142, 3) := by decide +kernel
theorem dX8_goes_45 : decode cX8_goes 45 = .ok (.aload_n 0, 1) := by decide +kernel
theorem dX8_goes_46 : decode cX8_goes 46 = .ok (.sipush 172, 3) := by decide +kernel
theorem dX8_goes_49 : decode cX8_goes 49 = .ok (.invokevirtual 138, 3) := by decide +kernel
theorem dX8_goes_52 : decode cX8_goes 52 = .ok (.return_, 1) := by decide +kernel
theorem dX8_row_0 : decode cX8_row 0 = .ok (.bipush 60, 2) := by decide +kernel
theorem dX8_row_2 : decode cX8_row 2 = .ok (.iload_n 1, 1) := by decide +kernel
theorem dX8_row_3 : decode cX8_row 3 = .ok (.imul, 1) := by decide +kernel
theorem dX8_row_4 : decode cX8_row 4 = .ok (.iload_n 2, 1) := by decide +kernel
theorem dX8_row_5 : decode cX8_row 5 = .ok (.iadd, 1) := by decide +kernel
theorem dX8_row_6 : decode cX8_row 6 = .ok (.istore 5, 2) := by decide +kernel
theorem dX8_row_8 : decode cX8_row 8 = .ok (.aload_n 0, 1) := by decide +kernel
theorem dX8_row_9 : decode cX8_row 9 = .ok (.getfield 16, 3) := by decide +kernel
theorem dX8_row_12 : decode cX8_row 12 = .ok (.iload 5, 2) := by decide +kernel
theorem dX8_row_14 : decode cX8_row 14 = .ok (.iaload, 1) := by decide +kernel
theorem dX8_row_15 : decode cX8_row 15 = .ok (.istore 6, 2) := by decide +kernel
theorem dX8_row_17 : decode cX8_row 17 = .ok (.aload_n 0, 1) := by decide +kernel
theorem dX8_row_18 : decode cX8_row 18 = .ok (.getfield 19, 3) := by decide +kernel
theorem dX8_row_21 : decode cX8_row 21 = .ok (.iload 5, 2) := by decide +kernel
theorem dX8_row_23 : decode cX8_row 23 = .ok (.iaload, 1) := by decide +kernel
theorem dX8_row_24 : decode cX8_row 24 = .ok (.istore 7, 2) := by decide +kernel
theorem dX8_row_26 : decode cX8_row 26 = .ok (.aload_n 0, 1) := by decide +kernel
theorem dX8_row_27 : decode cX8_row 27 = .ok (.getfield 22, 3) := by decide +kernel
theorem dX8_row_30 : decode cX8_row 30 = .ok (.iload 5, 2) := by decide +kernel
theorem dX8_row_32 : decode cX8_row 32 = .ok (.iaload, 1) := by decide +kernel
theorem dX8_row_33 : decode cX8_row 33 = .ok (.istore 8, 2) := by decide +kernel
theorem dX8_row_35 : decode cX8_row 35 = .ok (.aload_n 0, 1) := by decide +kernel
theorem dX8_row_36 : decode cX8_row 36 = .ok (.iload_n 1, 1) := by decide +kernel
theorem dX8_row_37 : decode cX8_row 37 = .ok (.iload_n 2, 1) := by decide +kernel
theorem dX8_row_38 : decode cX8_row 38 = .ok (.iload_n 3, 1) := by decide +kernel
theorem dX8_row_39 : decode cX8_row 39 = .ok (.iload 4, 2) := by decide +kernel
theorem dX8_row_41 : decode cX8_row 41 = .ok (.invokevirtual 213, 3) := by decide +kernel
theorem dX8_row_44 : decode cX8_row 44 = .ok (.istore 9, 2) := by decide +kernel
theorem dX8_row_46 : decode cX8_row 46 = .ok (.iload 6, 2) := by decide +kernel
theorem dX8_row_48 : decode cX8_row 48 = .ok (.bipush 7, 2) := by decide +kernel
theorem dX8_row_50 : decode cX8_row 50 = .ok (.if_icmp .ge 86, 3) := by decide +kernel
theorem dX8_row_53 : decode cX8_row 53 = .ok (.aload_n 0, 1) := by decide +kernel
theorem dX8_row_54 : decode cX8_row 54 = .ok (.invokevirtual 207, 3) := by decide +kernel
theorem dX8_row_57 : decode cX8_row 57 = .ok (.aload_n 0, 1) := by decide +kernel
theorem dX8_row_58 : decode cX8_row 58 = .ok (.iload 7, 2) := by decide +kernel
theorem dX8_row_60 : decode cX8_row 60 = .ok (.invokevirtual 210, 3) := by decide +kernel
theorem dX8_row_63 : decode cX8_row 63 = .ok (.iload 6, 2) := by decide +kernel
theorem dX8_row_65 : decode cX8_row 65 = .ok (.ifCond .ne 9, 3) := by decide +kernel
theorem dX8_row_68 : decode cX8_row 68 = .ok (.aload_n 0, 1) := by decide +kernel
theorem dX8_row_69 : decode cX8_row 69 = .ok (.iload 8, 2) := by decide +kernel
theorem dX8_row_71 : decode cX8_row 71 = .ok (.invokevirtual 210, 3) := by decide +kernel
theorem dX8_row_74 : decode cX8_row 74 = .ok (.iload 6, 2) := by decide +kernel
theorem dX8_row_76 : decode cX8_row 76 = .ok (.iconst 1, 1) := by decide +kernel
theorem dX8_row_77 : decode cX8_row 77 = .ok (.if_icmp .le 9, 3) := by decide +kernel
theorem dX8_row_80 : decode cX8_row 80 = .ok (.aload_n 0, 1) := by decide +kernel
theorem dX8_row_81 : decode cX8_row 81 = .ok (.iload 7, 2) := by decide +kernel
theorem dX8_row_83 : decode cX8_row 83 = .ok (.invokevirtual 217, 3) := by decide +kernel
theorem dX8_row_86 : decode cX8_row 86 = .ok (.iload 6, 2) := by decide +kernel
theorem dX8_row_88 : decode cX8_row 88 = .ok (.ifCond .le 9, 3) := by decide +kernel
theorem dX8_row_91 : decode cX8_row 91 = .ok (.aload_n 0, 1) := by decide +kernel
theorem dX8_row_92 : decode cX8_row 92 = .ok (.iload 8, 2) := by decide +kernel
theorem dX8_row_94 : decode cX8_row 94 = .ok (.invokevirtual 217, 3) := by decide +kernel
theorem dX8_row_97 : decode cX8_row 97 = .ok (.iload 6, 2) := by decide +kernel
theorem dX8_row_99 : decode cX8_row 99 = .ok (.iconst 1, 1) := by decide +kernel
theorem dX8_row_100 : decode cX8_row 100 = .ok (.if_icmp .le 14, 3) := by decide +kernel
theorem dX8_row_103 : decode cX8_row 103 = .ok (.aload_n 0, 1) := by decide +kernel
theorem dX8_row_104 : decode cX8_row 104 = .ok (.bipush 88, 2) := by decide +kernel
theorem dX8_row_106 : decode cX8_row 106 = .ok (.iconst 4, 1) := by decide +kernel
theorem dX8_row_107 : decode cX8_row 107 = .ok (.iload 6, 2) := by decide +kernel
theorem dX8_row_109 : decode cX8_row 109 = .ok (.imul, 1) := by decide +kernel
theorem dX8_row_110 : decode cX8_row 110 = .ok (.iadd, 1) := by decide +kernel
theorem dX8_row_111 : decode cX8_row 111 = .ok (.invokevirtual 138, 3) := by decide +kernel
theorem dX8_row_114 : decode cX8_row 114 = .ok (.iload 6, 2) := by decide +kernel
theorem dX8_row_116 : decode cX8_row 116 = .ok (.iconst 1, 1) := by decide +kernel
theorem dX8_row_117 : decode cX8_row 117 = .ok (.if_icmp .le 10, 3) := by decide +kernel
theorem dX8_row_120 : decode cX8_row 120 = .ok (.aload_n 0, 1) := by decide +kernel
theorem dX8_row_121 : decode cX8_row 121 = .ok (.sipush 145, 3) := by decide +kernel
theorem dX8_row_124 : decode cX8_row 124 = .ok (.invokevirtual 138, 3) := by decide +kernel
theorem dX8_row_127 : decode cX8_row 127 = .ok (.aload_n 0, 1) := by decide +kernel
theorem dX8_row_128 : decode cX8_row 128 = .ok (.bipush 84, 2) := by decide +kernel
theorem dX8_row_130 : decode cX8_row 130 = .ok (.invokevirtual 138, 3) := by decide +kernel
theorem dX8_row_133 : decode cX8_row 133 = .ok (.goto 207, 3) := by decide +kernel
theorem dX8_row_136 : decode cX8_row 136 = .ok (.iload 6, 2) := by decide +kernel
theorem dX8_row_138 : decode cX8_row 138 = .ok (.bipush 7, 2) := by decide +kernel
theorem dX8_row_140 : decode cX8_row 140 = .ok (.if_icmp .ne 28, 3) := by decide +kernel
theorem dX8_row_143 : decode cX8_row 143 = .ok (.aload_n 0, 1) := by decide +kernel
theorem dX8_row_144 : decode cX8_row 144 = .ok (.invokevirtual 207, 3) := by decide +kernel
theorem dX8_row_147 : decode cX8_row 147 = .ok (.aload_n 0, 1) := by decide +kernel
theorem dX8_row_148 : decode cX8_row 148 = .ok (.iload 7, 2) := by decide +kernel
theorem dX8_row_150 : decode cX8_row 150 = .ok (.invokevirtual 217, 3) := by decide +kernel
theorem dX8_row_153 : decode cX8_row 153 = .ok (.aload_n 0, 1) := by decide +kernel
theorem dX8_row_154 : decode cX8_row 154 = .ok (.iload 8, 2) := by decide +kernel
theorem dX8_row_156 : decode cX8_row 156 = .ok (.invokevirtual 217, 3) := by decide +kernel
theorem dX8_row_159 : decode cX8_row 159 = .ok (.aload_n 0, 1) := by decide +kernel
theorem dX8_row_160 : decode cX8_row 160 = .ok (.bipush 84, 2) := by decide +kernel
theorem dX8_row_162 : decode cX8_row 162 = .ok (.invokevirtual 138, 3) := by decide +kernel
theorem dX8_row_165 : decode cX8_row 165 = .ok (.goto 175, 3) := by decide +kernel
theorem dX8_row_168 : decode cX8_row 168 = .ok (.iload 6, 2) := by decide +kernel
theorem dX8_row_170 : decode cX8_row 170 = .ok (.bipush 8, 2) := by decide +kernel
theorem dX8_row_172 : decode cX8_row 172 = .ok (.if_icmp .ne 49, 3) := by decide +kernel
theorem dX8_row_175 : decode cX8_row 175 = .ok (.aload_n 0, 1) := by decide +kernel
theorem dX8_row_176 : decode cX8_row 176 = .ok (.iload 7, 2) := by decide +kernel
theorem dX8_row_178 : decode cX8_row 178 = .ok (.invokevirtual 217, 3) := by decide +kernel
theorem dX8_row_181 : decode cX8_row 181 = .ok (.aload_n 0, 1) := by decide +kernel
theorem dX8_row_182 : decode cX8_row 182 = .ok (.sipush 154, 3) := by decide +kernel
theorem dX8_row_185 : decode cX8_row 185 = .ok (.invokevirtual 138, 3) := by decide +kernel
theorem dX8_row_188 : decode cX8_row 188 = .ok (.aload_n 0, 1) := by decide +kernel
theorem dX8_row_189 : decode cX8_row 189 = .ok (.iconst 3, 1) := by decide +kernel
theorem dX8_row_190 : decode cX8_row 190 = .ok (.aload_n 0, 1) := by decide +kernel
theorem dX8_row_191 : decode cX8_row 191 = .ok (.iload 8, 2) := by decide +kernel
theorem dX8_row_193 : decode cX8_row 193 = .ok (.iload_n 3, 1) := by decide +kernel
theorem dX8_row_194 : decode cX8_row 194 = .ok (.iload 4, 2) := by decide +kernel
theorem dX8_row_196 : decode cX8_row 196 = .ok (.invokevirtual 200, 3) := by decide +kernel
theorem dX8_row_199 : decode cX8_row 199 = .ok (.iadd, 1) := by decide +kernel
theorem dX8_row_200 : decode cX8_row 200 = .ok (.invokevirtual 142, 3) := by decide +kernel
theorem dX8_row_203 : decode cX8_row 203 = .ok (.aload_n 0, 1) := by decide +kernel
theorem dX8_row_204 : decode cX8_row 204 = .ok (.iload_n 1, 1) := by decide +kernel
theorem dX8_row_205 : decode cX8_row 205 = .ok (.iload 8, 2) := by decide +kernel
theorem dX8_row_207 : decode cX8_row 207 = .ok (.iload_n 3, 1) := by decide +kernel
theorem dX8_row_208 : decode cX8_row 208 = .ok (.iload 4, 2) := by decide +kernel
theorem dX8_row_210 : decode cX8_row 210 = .ok (.iload 9, 2) := by decide +kernel
theorem dX8_row_212 : decode cX8_row 212 = .ok (.bipush 9, 2) := by decide +kernel
theorem dX8_row_214 : decode cX8_row 214 = .ok (.iadd, 1) := by decide +kernel
theorem dX8_row_215 : decode cX8_row 215 = .ok (.invokevirtual 220, 3) := by decide +kernel
theorem dX8_row_218 : decode cX8_row 218 = .ok (.goto 122, 3) := by decide +kernel
theorem dX8_row_221 : decode cX8_row 221 = .ok (.iload 6, 2) := by decide +kernel
theorem dX8_row_223 : decode cX8_row 223 = .ok (.bipush 9, 2) := by decide +kernel
theorem dX8_row_225 : decode cX8_row 225 = .ok (.if_icmp .ne 18, 3) := by decide +kernel
theorem dX8_row_228 : decode cX8_row 228 = .ok (.aload_n 0, 1) := by decide +kernel
theorem dX8_row_229 : decode cX8_row 229 = .ok (.iload_n 1, 1) := by decide +kernel
theorem dX8_row_230 : decode cX8_row 230 = .ok (.iload 8, 2) := by decide +kernel
theorem dX8_row_232 : decode cX8_row 232 = .ok (.iload_n 3, 1) := by decide +kernel
theorem dX8_row_233 : decode cX8_row 233 = .ok (.iload 4, 2) := by decide +kernel
theorem dX8_row_235 : decode cX8_row 235 = .ok (.iload 9, 2) := by decide +kernel
theorem dX8_row_237 : decode cX8_row 237 = .ok (.invokevirtual 220, 3) := by decide +kernel
theorem dX8_row_240 : decode cX8_row 240 = .ok (.goto 100, 3) := by decide +kernel
theorem dX8_row_243 : decode cX8_row 243 = .ok (.iload 6, 2) := by decide +kernel
theorem dX8_row_245 : decode cX8_row 245 = .ok (.bipush 13, 2) := by decide +kernel
theorem dX8_row_247 : decode cX8_row 247 = .ok (.if_icmp .ge 49, 3) := by decide +kernel
theorem dX8_row_250 : decode cX8_row 250 = .ok (.aload_n 0, 1) := by decide +kernel
theorem dX8_row_251 : decode cX8_row 251 = .ok (.iload 7, 2) := by decide +kernel
theorem dX8_row_253 : decode cX8_row 253 = .ok (.invokevirtual 210, 3) := by decide +kernel
theorem dX8_row_256 : decode cX8_row 256 = .ok (.aload_n 0, 1) := by decide +kernel
theorem dX8_row_257 : decode cX8_row 257 = .ok (.sipush 184, 3) := by decide +kernel
theorem dX8_row_260 : decode cX8_row 260 = .ok (.invokevirtual 138, 3) := by decide +kernel
theorem dX8_row_263 : decode cX8_row 263 = .ok (.aload_n 0, 1) := by decide +kernel
theorem dX8_row_264 : decode cX8_row 264 = .ok (.iload 6, 2) := by decide +kernel
theorem dX8_row_266 : decode cX8_row 266 = .ok (.bipush 10, 2) := by decide +kernel
theorem dX8_row_268 : decode cX8_row 268 = .ok (.if_icmp .ne 8, 3) := by decide +kernel
theorem dX8_row_271 : decode cX8_row 271 = .ok (.bipush 14, 2) := by decide +kernel
theorem dX8_row_273 : decode cX8_row 273 = .ok (.goto 17, 3) := by decide +kernel
theorem dX8_row_276 : decode cX8_row 276 = .ok (.iload 6, 2) := by decide +kernel
theorem dX8_row_278 : decode cX8_row 278 = .ok (.bipush 11, 2) := by decide +kernel
theorem dX8_row_280 : decode cX8_row 280 = .ok (.if_icmp .ne 8, 3) := by decide +kernel
theorem dX8_row_283 : decode cX8_row 283 = .ok (.bipush 17, 2) := by decide +kernel
theorem dX8_row_285 : decode cX8_row 285 = .ok (.goto 5, 3) := by decide +kernel
theorem dX8_row_288 : decode cX8_row 288 = .ok (.bipush 20, 2) := by decide +kernel
theorem dX8_row_290 : decode cX8_row 290 = .ok (.invokevirtual 142, 3) := by decide +kernel
theorem dX8_row_293 : decode cX8_row 293 = .ok (.goto 47, 3) := by decide +kernel
theorem dX8_row_296 : decode cX8_row 296 = .ok (.aload_n 0, 1) := by decide +kernel
theorem dX8_row_297 : decode cX8_row 297 = .ok (.iload 7, 2) := by decide +kernel
theorem dX8_row_299 : decode cX8_row 299 = .ok (.invokevirtual 217, 3) := by decide +kernel
theorem dX8_row_302 : decode cX8_row 302 = .ok (.aload_n 0, 1) := by decide +kernel
theorem dX8_row_303 : decode cX8_row 303 = .ok (.iload 8, 2) := by decide +kernel
theorem dX8_row_305 : decode cX8_row 305 = .ok (.invokevirtual 210, 3) := by decide +kernel
theorem dX8_row_308 : decode cX8_row 308 = .ok (.aload_n 0, 1) := by decide +kernel
theorem dX8_row_309 : decode cX8_row 309 = .ok (.sipush 164, 3) := by decide +kernel
theorem dX8_row_312 : decode cX8_row 312 = .ok (.invokevirtual 138, 3) := by decide +kernel
theorem dX8_row_315 : decode cX8_row 315 = .ok (.aload_n 0, 1) := by decide +kernel
theorem dX8_row_316 : decode cX8_row 316 = .ok (.bipush 8, 2) := by decide +kernel
theorem dX8_row_318 : decode cX8_row 318 = .ok (.invokevirtual 142, 3) := by decide +kernel
theorem dX8_row_321 : decode cX8_row 321 = .ok (.aload_n 0, 1) := by decide +kernel
theorem dX8_row_322 : decode cX8_row 322 = .ok (.iload 7, 2) := by decide +kernel
theorem dX8_row_324 : decode cX8_row 324 = .ok (.invokevirtual 210, 3) := by decide +kernel
theorem dX8_row_327 : decode cX8_row 327 = .ok (.aload_n 0, 1) := by decide +kernel
theorem dX8_row_328 : decode cX8_row 328 = .ok (.sipush 184, 3) := by decide +kernel
theorem dX8_row_331 : decode cX8_row 331 = .ok (.invokevirtual 138, 3) := by decide +kernel
theorem dX8_row_334 : decode cX8_row 334 = .ok (.aload_n 0, 1) := by decide +kernel
theorem dX8_row_335 : decode cX8_row 335 = .ok (.bipush 23, 2) := by decide +kernel
theorem dX8_row_337 : decode cX8_row 337 = .ok (.invokevirtual 142, 3) := by decide +kernel
theorem dX8_row_340 : decode cX8_row 340 = .ok (.return_, 1) := by decide +kernel
theorem dX8_member_0 : decode cX8_member 0 = .ok (.bipush 10, 2) := by decide +kernel
theorem dX8_member_2 : decode cX8_member 2 = .ok (.iload_n 2, 1) := by decide +kernel
theorem dX8_member_3 : decode cX8_member 3 = .ok (.imul, 1) := by decide +kernel
theorem dX8_member_4 : decode cX8_member 4 = .ok (.iconst 1, 1) := by decide +kernel
theorem dX8_member_5 : decode cX8_member 5 = .ok (.iadd, 1) := by decide +kernel
theorem dX8_member_6 : decode cX8_member 6 = .ok (.istore 4, 2) := by decide +kernel
theorem dX8_member_8 : decode cX8_member 8 = .ok (.iload_n 3, 1) := by decide +kernel
theorem dX8_member_9 : decode cX8_member 9 = .ok (.iload 4, 2) := by decide +kernel
theorem dX8_member_11 : decode cX8_member 11 = .ok (.isub, 1) := by decide +kernel
theorem dX8_member_12 : decode cX8_member 12 = .ok (.iconst 1, 1) := by decide +kernel
theorem dX8_member_13 : decode cX8_member 13 = .ok (.iadd, 1) := by decide +kernel
theorem dX8_member_14 : decode cX8_member 14 = .ok (.istore 5, 2) := by decide +kernel
theorem dX8_member_16 : decode cX8_member 16 = .ok (.aload_n 0, 1) := by decide +kernel
theorem dX8_member_17 : decode cX8_member 17 = .ok (.iload_n 1, 1) := by decide +kernel
theorem dX8_member_18 : decode cX8_member 18 = .ok (.iload_n 3, 1) := by decide +kernel
theorem dX8_member_19 : decode cX8_member 19 = .ok (.iconst 1, 1) := by decide +kernel
theorem dX8_member_20 : decode cX8_member 20 = .ok (.iadd, 1) := by decide +kernel
theorem dX8_member_21 : decode cX8_member 21 = .ok (.iload 4, 2) := by decide +kernel
theorem dX8_member_23 : decode cX8_member 23 = .ok (.iload_n 3, 1) := by decide +kernel
theorem dX8_member_24 : decode cX8_member 24 = .ok (.invokevirtual 213, 3) := by decide +kernel
theorem dX8_member_27 : decode cX8_member 27 = .ok (.istore 6, 2) := by decide +kernel
theorem dX8_member_29 : decode cX8_member 29 = .ok (.aload_n 0, 1) := by decide +kernel
theorem dX8_member_30 : decode cX8_member 30 = .ok (.bipush 28, 2) := by decide +kernel
theorem dX8_member_32 : decode cX8_member 32 = .ok (.iload_n 2, 1) := by decide +kernel
theorem dX8_member_33 : decode cX8_member 33 = .ok (.iadd, 1) := by decide +kernel
theorem dX8_member_34 : decode cX8_member 34 = .ok (.bipush 25, 2) := by decide +kernel
theorem dX8_member_36 : decode cX8_member 36 = .ok (.iconst 5, 1) := by decide +kernel
theorem dX8_member_37 : decode cX8_member 37 = .ok (.iconst 1, 1) := by decide +kernel
theorem dX8_member_38 : decode cX8_member 38 = .ok (.iload 6, 2) := by decide +kernel
theorem dX8_member_40 : decode cX8_member 40 = .ok (.iconst 4, 1) := by decide +kernel
theorem dX8_member_41 : decode cX8_member 41 = .ok (.iadd, 1) := by decide +kernel
theorem dX8_member_42 : decode cX8_member 42 = .ok (.invokevirtual 224, 3) := by decide +kernel
theorem dX8_member_45 : decode cX8_member 45 = .ok (.aload_n 0, 1) := by decide +kernel
theorem dX8_member_46 : decode cX8_member 46 = .ok (.bipush 26, 2) := by decide +kernel
theorem dX8_member_48 : decode cX8_member 48 = .ok (.invokevirtual 138, 3) := by decide +kernel
theorem dX8_member_51 : decode cX8_member 51 = .ok (.aload_n 0, 1) := by decide +kernel
theorem dX8_member_52 : decode cX8_member 52 = .ok (.sipush 170, 3) := by decide +kernel
theorem dX8_member_55 : decode cX8_member 55 = .ok (.invokevirtual 138, 3) := by decide +kernel
theorem dX8_member_58 : decode cX8_member 58 = .ok (.aload_n 0, 1) := by decide +kernel
theorem dX8_member_59 : decode cX8_member 59 = .ok (.iconst 0, 1) := by decide +kernel
theorem dX8_member_60 : decode cX8_member 60 = .ok (.invokevirtual 142, 3) := by decide +kernel
theorem dX8_member_63 : decode cX8_member 63 = .ok (.aload_n 0, 1) := by decide +kernel
theorem dX8_member_64 : decode cX8_member 64 = .ok (.iload 6, 2) := by decide +kernel
theorem dX8_member_66 : decode cX8_member 66 = .ok (.iconst 1, 1) := by decide +kernel
theorem dX8_member_67 : decode cX8_member 67 = .ok (.isub, 1) := by decide +kernel
theorem dX8_member_68 : decode cX8_member 68 = .ok (.invokevirtual 194, 3) := by decide +kernel
theorem dX8_member_71 : decode cX8_member 71 = .ok (.aload_n 0, 1) := by decide +kernel
theorem dX8_member_72 : decode cX8_member 72 = .ok (.iload 4, 2) := by decide +kernel
theorem dX8_member_74 : decode cX8_member 74 = .ok (.invokevirtual 194, 3) := by decide +kernel
theorem dX8_member_77 : decode cX8_member 77 = .ok (.aload_n 0, 1) := by decide +kernel
theorem dX8_member_78 : decode cX8_member 78 = .ok (.iload_n 3, 1) := by decide +kernel
theorem dX8_member_79 : decode cX8_member 79 = .ok (.invokevirtual 194, 3) := by decide +kernel
theorem dX8_member_82 : decode cX8_member 82 = .ok (.iconst 0, 1) := by decide +kernel
theorem dX8_member_83 : decode cX8_member 83 = .ok (.istore 7, 2) := by decide +kernel
theorem dX8_member_85 : decode cX8_member 85 = .ok (.iload 7, 2) := by decide +kernel
theorem dX8_member_87 : decode cX8_member 87 = .ok (.iload 5, 2) := by decide +kernel
theorem dX8_member_89 : decode cX8_member 89 = .ok (.if_icmp .ge 28, 3) := by decide +kernel
theorem dX8_member_92 : decode cX8_member 92 = .ok (.aload_n 0, 1) := by decide +kernel
theorem dX8_member_93 : decode cX8_member 93 = .ok (.aload_n 0, 1) := by decide +kernel
theorem dX8_member_94 : decode cX8_member 94 = .ok (.iload_n 1, 1) := by decide +kernel
theorem dX8_member_95 : decode cX8_member 95 = .ok (.iload 4, 2) := by decide +kernel
theorem dX8_member_97 : decode cX8_member 97 = .ok (.iload 7, 2) := by decide +kernel
theorem dX8_member_99 : decode cX8_member 99 = .ok (.iadd, 1) := by decide +kernel
theorem dX8_member_100 : decode cX8_member 100 = .ok (.iload 4, 2) := by decide +kernel
theorem dX8_member_102 : decode cX8_member 102 = .ok (.iload_n 3, 1) := by decide +kernel
theorem dX8_member_103 : decode cX8_member 103 = .ok (.invokevirtual 213, 3) := by decide +kernel
theorem dX8_member_106 : decode cX8_member 106 = .ok (.iconst 1, 1) := by decide +kernel
theorem dX8_member_107 : decode cX8_member 107 = .ok (.isub, 1) := by decide +kernel
theorem dX8_member_108 : decode cX8_member 108 = .ok (.invokevirtual 194, 3) := by decide +kernel
theorem dX8_member_111 : decode cX8_member 111 = .ok (.iinc 7 1, 3) := by decide +kernel
theorem dX8_member_114 : decode cX8_member 114 = .ok (.goto (-29), 3) := by decide +kernel
theorem dX8_member_117 : decode cX8_member 117 = .ok (.iload 4, 2) := by decide +kernel
theorem dX8_member_119 : decode cX8_member 119 = .ok (.istore 7, 2) := by decide +kernel
theorem dX8_member_121 : decode cX8_member 121 = .ok (.iload 7, 2) := by decide +kernel
theorem dX8_member_123 : decode cX8_member 123 = .ok (.iload_n 3, 1) := by decide +kernel
theorem dX8_member_124 : decode cX8_member 124 = .ok (.if_icmp .gt 19, 3) := by decide +kernel
theorem dX8_member_127 : decode cX8_member 127 = .ok (.aload_n 0, 1) := by decide +kernel
theorem dX8_member_128 : decode cX8_member 128 = .ok (.iload_n 1, 1) := by decide +kernel
theorem dX8_member_129 : decode cX8_member 129 = .ok (.iload 7, 2) := by decide +kernel
theorem dX8_member_131 : decode cX8_member 131 = .ok (.iload 4, 2) := by decide +kernel
theorem dX8_member_133 : decode cX8_member 133 = .ok (.iload_n 3, 1) := by decide +kernel
theorem dX8_member_134 : decode cX8_member 134 = .ok (.invokevirtual 227, 3) := by decide +kernel
theorem dX8_member_137 : decode cX8_member 137 = .ok (.iinc 7 1, 3) := by decide +kernel
theorem dX8_member_140 : decode cX8_member 140 = .ok (.goto (-19), 3) := by decide +kernel
theorem dX8_member_143 : decode cX8_member 143 = .ok (.aload_n 0, 1) := by decide +kernel
theorem dX8_member_144 : decode cX8_member 144 = .ok (.bipush 17, 2) := by decide +kernel
theorem dX8_member_146 : decode cX8_member 146 = .ok (.invokevirtual 138, 3) := by decide +kernel
theorem dX8_member_149 : decode cX8_member 149 = .ok (.aload_n 0, 1) := by decide +kernel
theorem dX8_member_150 : decode cX8_member 150 = .ok (.iload_n 3, 1) := by decide +kernel
theorem dX8_member_151 : decode cX8_member 151 = .ok (.iconst 1, 1) := by decide +kernel
theorem dX8_member_152 : decode cX8_member 152 = .ok (.iadd, 1) := by decide +kernel
theorem dX8_member_153 : decode cX8_member 153 = .ok (.invokevirtual 142, 3) := by decide +kernel
theorem dX8_member_156 : decode cX8_member 156 = .ok (.aload_n 0, 1) := by decide +kernel
theorem dX8_member_157 : decode cX8_member 157 = .ok (.sipush 172, 3) := by decide +kernel
theorem dX8_member_160 : decode cX8_member 160 = .ok (.invokevirtual 138, 3) := by decide +kernel
theorem dX8_member_163 : decode cX8_member 163 = .ok (.aload_n 0, 1) := by decide +kernel
theorem dX8_member_164 : decode cX8_member 164 = .ok (.iconst 0, 1) := by decide +kernel
theorem dX8_member_165 : decode cX8_member 165 = .ok (.invokevirtual 194, 3) := by decide +kernel
theorem dX8_member_168 : decode cX8_member 168 = .ok (.return_, 1) := by decide +kernel
theorem dX8_build_0 : decode cX8_build 0 = .ok (.aload_n 0, 1) := by decide +kernel
theorem dX8_build_1 : decode cX8_build 1 = .ok (.iconst 0, 1) := by decide +kernel
theorem dX8_build_2 : decode cX8_build 2 = .ok (.putfield 135, 3) := by decide +kernel
theorem dX8_build_5 : decode cX8_build 5 = .ok (.aload_n 0, 1) := by decide +kernel
theorem dX8_build_6 : decode cX8_build 6 = .ok (.getfield 32, 3) := by decide +kernel
theorem dX8_build_9 : decode cX8_build 9 = .ok (.iload_n 1, 1) := by decide +kernel
theorem dX8_build_10 : decode cX8_build 10 = .ok (.iaload, 1) := by decide +kernel
theorem dX8_build_11 : decode cX8_build 11 = .ok (.istore_n 2, 1) := by decide +kernel
theorem dX8_build_12 : decode cX8_build 12 = .ok (.aload_n 0, 1) := by decide +kernel
theorem dX8_build_13 : decode cX8_build 13 = .ok (.getfield 35, 3) := by decide +kernel
theorem dX8_build_16 : decode cX8_build 16 = .ok (.iload_n 1, 1) := by decide +kernel
theorem dX8_build_17 : decode cX8_build 17 = .ok (.iaload, 1) := by decide +kernel
theorem dX8_build_18 : decode cX8_build 18 = .ok (.istore_n 3, 1) := by decide +kernel
theorem dX8_build_19 : decode cX8_build 19 = .ok (.iload_n 3, 1) := by decide +kernel
theorem dX8_build_20 : decode cX8_build 20 = .ok (.bipush 9, 2) := by decide +kernel
theorem dX8_build_22 : decode cX8_build 22 = .ok (.iadd, 1) := by decide +kernel
theorem dX8_build_23 : decode cX8_build 23 = .ok (.bipush 10, 2) := by decide +kernel
theorem dX8_build_25 : decode cX8_build 25 = .ok (.idiv, 1) := by decide +kernel
theorem dX8_build_26 : decode cX8_build 26 = .ok (.istore 4, 2) := by decide +kernel
theorem dX8_build_28 : decode cX8_build 28 = .ok (.aload_n 0, 1) := by decide +kernel
theorem dX8_build_29 : decode cX8_build 29 = .ok (.ldc 231, 2) := by decide +kernel
theorem dX8_build_31 : decode cX8_build 31 = .ok (.invokevirtual 194, 3) := by decide +kernel
theorem dX8_build_34 : decode cX8_build 34 = .ok (.aload_n 0, 1) := by decide +kernel
theorem dX8_build_35 : decode cX8_build 35 = .ok (.iconst 0, 1) := by decide +kernel
theorem dX8_build_36 : decode cX8_build 36 = .ok (.invokevirtual 142, 3) := by decide +kernel
theorem dX8_build_39 : decode cX8_build 39 = .ok (.aload_n 0, 1) := by decide +kernel
theorem dX8_build_40 : decode cX8_build 40 = .ok (.bipush 46, 2) := by decide +kernel
theorem dX8_build_42 : decode cX8_build 42 = .ok (.invokevirtual 142, 3) := by decide +kernel
theorem dX8_build_45 : decode cX8_build 45 = .ok (.aload_n 0, 1) := by decide +kernel
theorem dX8_build_46 : decode cX8_build 46 = .ok (.iload_n 2, 1) := by decide +kernel
theorem dX8_build_47 : decode cX8_build 47 = .ok (.iload 4, 2) := by decide +kernel
theorem dX8_build_49 : decode cX8_build 49 = .ok (.invokevirtual 232, 3) := by decide +kernel
theorem dX8_build_52 : decode cX8_build 52 = .ok (.aload_n 0, 1) := by decide +kernel
theorem dX8_build_53 : decode cX8_build 53 = .ok (.bipush 33, 2) := by decide +kernel
theorem dX8_build_55 : decode cX8_build 55 = .ok (.invokevirtual 142, 3) := by decide +kernel
theorem dX8_build_58 : decode cX8_build 58 = .ok (.aload_n 0, 1) := by decide +kernel
theorem dX8_build_59 : decode cX8_build 59 = .ok (.iconst 2, 1) := by decide +kernel
theorem dX8_build_60 : decode cX8_build 60 = .ok (.invokevirtual 142, 3) := by decide +kernel
theorem dX8_build_63 : decode cX8_build 63 = .ok (.aload_n 0, 1) := by decide +kernel
theorem dX8_build_64 : decode cX8_build 64 = .ok (.iconst 4, 1) := by decide +kernel
theorem dX8_build_65 : decode cX8_build 65 = .ok (.invokevirtual 142, 3) := by decide +kernel
theorem dX8_build_68 : decode cX8_build 68 = .ok (.aload_n 0, 1) := by decide +kernel
theorem dX8_build_69 : decode cX8_build 69 = .ok (.iconst 0, 1) := by decide +kernel
theorem dX8_build_70 : decode cX8_build 70 = .ok (.invokevirtual 142, 3) := by decide +kernel
theorem dX8_build_73 : decode cX8_build 73 = .ok (.aload_n 0, 1) := by decide +kernel
theorem dX8_build_74 : decode cX8_build 74 = .ok (.iconst 1, 1) := by decide +kernel
theorem dX8_build_75 : decode cX8_build 75 = .ok (.invokevirtual 142, 3) := by decide +kernel
theorem dX8_build_78 : decode cX8_build 78 = .ok (.aload_n 0, 1) := by decide +kernel
theorem dX8_build_79 : decode cX8_build 79 = .ok (.bipush 8, 2) := by decide +kernel
theorem dX8_build_81 : decode cX8_build 81 = .ok (.invokevirtual 142, 3) := by decide +kernel
theorem dX8_build_84 : decode cX8_build 84 = .ok (.aload_n 0, 1) := by decide +kernel
theorem dX8_build_85 : decode cX8_build 85 = .ok (.iconst 5, 1) := by decide +kernel
theorem dX8_build_86 : decode cX8_build 86 = .ok (.invokevirtual 142, 3) := by decide +kernel
theorem dX8_build_89 : decode cX8_build 89 = .ok (.aload_n 0, 1) := by decide +kernel
theorem dX8_build_90 : decode cX8_build 90 = .ok (.bipush 6, 2) := by decide +kernel
theorem dX8_build_92 : decode cX8_build 92 = .ok (.invokevirtual 142, 3) := by decide +kernel
theorem dX8_build_95 : decode cX8_build 95 = .ok (.aload_n 0, 1) := by decide +kernel
theorem dX8_build_96 : decode cX8_build 96 = .ok (.iconst 0, 1) := by decide +kernel
theorem dX8_build_97 : decode cX8_build 97 = .ok (.invokevirtual 142, 3) := by decide +kernel
theorem dX8_build_100 : decode cX8_build 100 = .ok (.aload_n 0, 1) := by decide +kernel
theorem dX8_build_101 : decode cX8_build 101 = .ok (.iconst 1, 1) := by decide +kernel
theorem dX8_build_102 : decode cX8_build 102 = .ok (.iload 4, 2) := by decide +kernel
theorem dX8_build_104 : decode cX8_build 104 = .ok (.iadd, 1) := by decide +kernel
theorem dX8_build_105 : decode cX8_build 105 = .ok (.invokevirtual 142, 3) := by decide +kernel
theorem dX8_build_108 : decode cX8_build 108 = .ok (.aload_n 0, 1) := by decide +kernel
theorem dX8_build_109 : decode cX8_build 109 = .ok (.bipush 26, 2) := by decide +kernel
theorem dX8_build_111 : decode cX8_build 111 = .ok (.bipush 27, 2) := by decide +kernel
theorem dX8_build_113 : decode cX8_build 113 = .ok (.iconst 2, 1) := by decide +kernel
theorem dX8_build_114 : decode cX8_build 114 = .ok (.iconst 0, 1) := by decide +kernel
theorem dX8_build_115 : decode cX8_build 115 = .ok (.aload_n 0, 1) := by decide +kernel
theorem dX8_build_116 : decode cX8_build 116 = .ok (.getfield 25, 3) := by decide +kernel
theorem dX8_build_119 : decode cX8_build 119 = .ok (.iload_n 2, 1) := by decide +kernel
theorem dX8_build_120 : decode cX8_build 120 = .ok (.baload, 1) := by decide +kernel
theorem dX8_build_121 : decode cX8_build 121 = .ok (.ifCond .eq 8, 3) := by decide +kernel
theorem dX8_build_124 : decode cX8_build 124 = .ok (.bipush 12, 2) := by decide +kernel
theorem dX8_build_126 : decode cX8_build 126 = .ok (.goto 5, 3) := by decide +kernel
theorem dX8_build_129 : decode cX8_build 129 = .ok (.bipush 8, 2) := by decide +kernel
theorem dX8_build_131 : decode cX8_build 131 = .ok (.invokevirtual 224, 3) := by decide +kernel
theorem dX8_build_134 : decode cX8_build 134 = .ok (.aload_n 0, 1) := by decide +kernel
theorem dX8_build_135 : decode cX8_build 135 = .ok (.getfield 25, 3) := by decide +kernel
theorem dX8_build_138 : decode cX8_build 138 = .ok (.iload_n 2, 1) := by decide +kernel
theorem dX8_build_139 : decode cX8_build 139 = .ok (.baload, 1) := by decide +kernel
theorem dX8_build_140 : decode cX8_build 140 = .ok (.ifCond .eq 9, 3) := by decide +kernel
theorem dX8_build_143 : decode cX8_build 143 = .ok (.aload_n 0, 1) := by decide +kernel
theorem dX8_build_144 : decode cX8_build 144 = .ok (.ldc 236, 2) := by decide +kernel
theorem dX8_build_146 : decode cX8_build 146 = .ok (.invokevirtual 194, 3) := by decide +kernel
theorem dX8_build_149 : decode cX8_build 149 = .ok (.aload_n 0, 1) := by decide +kernel
theorem dX8_build_150 : decode cX8_build 150 = .ok (.aload_n 0, 1) := by decide +kernel
theorem dX8_build_151 : decode cX8_build 151 = .ok (.getfield 7, 3) := by decide +kernel
theorem dX8_build_154 : decode cX8_build 154 = .ok (.iload_n 2, 1) := by decide +kernel
theorem dX8_build_155 : decode cX8_build 155 = .ok (.iaload, 1) := by decide +kernel
theorem dX8_build_156 : decode cX8_build 156 = .ok (.invokevirtual 210, 3) := by decide +kernel
theorem dX8_build_159 : decode cX8_build 159 = .ok (.aload_n 0, 1) := by decide +kernel
theorem dX8_build_160 : decode cX8_build 160 = .ok (.sipush 188, 3) := by decide +kernel
theorem dX8_build_163 : decode cX8_build 163 = .ok (.invokevirtual 138, 3) := by decide +kernel
theorem dX8_build_166 : decode cX8_build 166 = .ok (.aload_n 0, 1) := by decide +kernel
theorem dX8_build_167 : decode cX8_build 167 = .ok (.bipush 8, 2) := by decide +kernel
theorem dX8_build_169 : decode cX8_build 169 = .ok (.invokevirtual 138, 3) := by decide +kernel
theorem dX8_build_172 : decode cX8_build 172 = .ok (.aload_n 0, 1) := by decide +kernel
theorem dX8_build_173 : decode cX8_build 173 = .ok (.sipush 179, 3) := by decide +kernel
theorem dX8_build_176 : decode cX8_build 176 = .ok (.invokevirtual 138, 3) := by decide +kernel
theorem dX8_build_179 : decode cX8_build 179 = .ok (.aload_n 0, 1) := by decide +kernel
theorem dX8_build_180 : decode cX8_build 180 = .ok (.bipush 8, 2) := by decide +kernel
theorem dX8_build_182 : decode cX8_build 182 = .ok (.invokevirtual 142, 3) := by decide +kernel
theorem dX8_build_185 : decode cX8_build 185 = .ok (.aload_n 0, 1) := by decide +kernel
theorem dX8_build_186 : decode cX8_build 186 = .ok (.sipush 177, 3) := by decide +kernel
theorem dX8_build_189 : decode cX8_build 189 = .ok (.invokevirtual 138, 3) := by decide +kernel
theorem dX8_build_192 : decode cX8_build 192 = .ok (.aload_n 0, 1) := by decide +kernel
theorem dX8_build_193 : decode cX8_build 193 = .ok (.iconst 0, 1) := by decide +kernel
theorem dX8_build_194 : decode cX8_build 194 = .ok (.invokevirtual 194, 3) := by decide +kernel
theorem dX8_build_197 : decode cX8_build 197 = .ok (.iconst 0, 1) := by decide +kernel
theorem dX8_build_198 : decode cX8_build 198 = .ok (.istore 5, 2) := by decide +kernel
theorem dX8_build_200 : decode cX8_build 200 = .ok (.iload 5, 2) := by decide +kernel
theorem dX8_build_202 : decode cX8_build 202 = .ok (.iload 4, 2) := by decide +kernel
theorem dX8_build_204 : decode cX8_build 204 = .ok (.if_icmp .ge 40, 3) := by decide +kernel
theorem dX8_build_207 : decode cX8_build 207 = .ok (.aload_n 0, 1) := by decide +kernel
theorem dX8_build_208 : decode cX8_build 208 = .ok (.iload_n 2, 1) := by decide +kernel
theorem dX8_build_209 : decode cX8_build 209 = .ok (.iload 5, 2) := by decide +kernel
theorem dX8_build_211 : decode cX8_build 211 = .ok (.iload_n 3, 1) := by decide +kernel
theorem dX8_build_212 : decode cX8_build 212 = .ok (.bipush 10, 2) := by decide +kernel
theorem dX8_build_214 : decode cX8_build 214 = .ok (.iload 5, 2) := by decide +kernel
theorem dX8_build_216 : decode cX8_build 216 = .ok (.imul, 1) := by decide +kernel
theorem dX8_build_217 : decode cX8_build 217 = .ok (.bipush 10, 2) := by decide +kernel
theorem dX8_build_219 : decode cX8_build 219 = .ok (.iadd, 1) := by decide +kernel
theorem dX8_build_220 : decode cX8_build 220 = .ok (.if_icmp .ge 7, 3) := by decide +kernel
theorem dX8_build_223 : decode cX8_build 223 = .ok (.iload_n 3, 1) := by decide +kernel
theorem dX8_build_224 : decode cX8_build 224 = .ok (.goto 11, 3) := by decide +kernel
theorem dX8_build_227 : decode cX8_build 227 = .ok (.bipush 10, 2) := by decide +kernel
theorem dX8_build_229 : decode cX8_build 229 = .ok (.iload 5, 2) := by decide +kernel
theorem dX8_build_231 : decode cX8_build 231 = .ok (.imul, 1) := by decide +kernel
theorem dX8_build_232 : decode cX8_build 232 = .ok (.bipush 10, 2) := by decide +kernel
theorem dX8_build_234 : decode cX8_build 234 = .ok (.iadd, 1) := by decide +kernel
theorem dX8_build_235 : decode cX8_build 235 = .ok (.invokevirtual 237, 3) := by decide +kernel
theorem dX8_build_238 : decode cX8_build 238 = .ok (.iinc 5 1, 3) := by decide +kernel
theorem dX8_build_241 : decode cX8_build 241 = .ok (.goto (-41), 3) := by decide +kernel
theorem dX8_build_244 : decode cX8_build 244 = .ok (.aload_n 0, 1) := by decide +kernel
theorem dX8_build_245 : decode cX8_build 245 = .ok (.iconst 0, 1) := by decide +kernel
theorem dX8_build_246 : decode cX8_build 246 = .ok (.invokevirtual 142, 3) := by decide +kernel
theorem dX8_build_249 : decode cX8_build 249 = .ok (.return_, 1) := by decide +kernel
theorem dX8_octet_0 : decode cX8_octet 0 = .ok (.aload_n 0, 1) := by decide +kernel
theorem dX8_octet_1 : decode cX8_octet 1 = .ok (.iconst 1, 1) := by decide +kernel
theorem dX8_octet_2 : decode cX8_octet 2 = .ok (.putfield 87, 3) := by decide +kernel
theorem dX8_octet_5 : decode cX8_octet 5 = .ok (.iload_n 1, 1) := by decide +kernel
theorem dX8_octet_6 : decode cX8_octet 6 = .ok (.iconst 1, 1) := by decide +kernel
theorem dX8_octet_7 : decode cX8_octet 7 = .ok (.if_icmp .lt 11, 3) := by decide +kernel
theorem dX8_octet_10 : decode cX8_octet 10 = .ok (.iload_n 1, 1) := by decide +kernel
theorem dX8_octet_11 : decode cX8_octet 11 = .ok (.aload_n 0, 1) := by decide +kernel
theorem dX8_octet_12 : decode cX8_octet 12 = .ok (.getfield 113, 3) := by decide +kernel
theorem dX8_octet_15 : decode cX8_octet 15 = .ok (.if_icmp .le 5, 3) := by decide +kernel
theorem dX8_octet_18 : decode cX8_octet 18 = .ok (.iconst 0, 1) := by decide +kernel
theorem dX8_octet_19 : decode cX8_octet 19 = .ok (.ireturn, 1) := by decide +kernel
theorem dX8_octet_20 : decode cX8_octet 20 = .ok (.aload_n 0, 1) := by decide +kernel
theorem dX8_octet_21 : decode cX8_octet 21 = .ok (.iload_n 1, 1) := by decide +kernel
theorem dX8_octet_22 : decode cX8_octet 22 = .ok (.invokevirtual 240, 3) := by decide +kernel
theorem dX8_octet_25 : decode cX8_octet 25 = .ok (.aload_n 0, 1) := by decide +kernel
theorem dX8_octet_26 : decode cX8_octet 26 = .ok (.iload_n 2, 1) := by decide +kernel
theorem dX8_octet_27 : decode cX8_octet 27 = .ok (.ifCond .lt 15, 3) := by decide +kernel
theorem dX8_octet_30 : decode cX8_octet 30 = .ok (.iload_n 2, 1) := by decide +kernel
theorem dX8_octet_31 : decode cX8_octet 31 = .ok (.aload_n 0, 1) := by decide +kernel
theorem dX8_octet_32 : decode cX8_octet 32 = .ok (.getfield 135, 3) := by decide +kernel
theorem dX8_octet_35 : decode cX8_octet 35 = .ok (.if_icmp .ge 7, 3) := by decide +kernel
theorem dX8_octet_38 : decode cX8_octet 38 = .ok (.iconst 0, 1) := by decide +kernel
theorem dX8_octet_39 : decode cX8_octet 39 = .ok (.goto 4, 3) := by decide +kernel
theorem dX8_octet_42 : decode cX8_octet 42 = .ok (.iconst 1, 1) := by decide +kernel
theorem dX8_octet_43 : decode cX8_octet 43 = .ok (.putfield 87, 3) := by decide +kernel
theorem dX8_octet_46 : decode cX8_octet 46 = .ok (.aload_n 0, 1) := by decide +kernel
theorem dX8_octet_47 : decode cX8_octet 47 = .ok (.getfield 87, 3) := by decide +kernel
theorem dX8_octet_50 : decode cX8_octet 50 = .ok (.ifCond .ne 13, 3) := by decide +kernel
theorem dX8_octet_53 : decode cX8_octet 53 = .ok (.aload_n 0, 1) := by decide +kernel
theorem dX8_octet_54 : decode cX8_octet 54 = .ok (.getfield 84, 3) := by decide +kernel
theorem dX8_octet_57 : decode cX8_octet 57 = .ok (.iload_n 2, 1) := by decide +kernel
theorem dX8_octet_58 : decode cX8_octet 58 = .ok (.iaload, 1) := by decide +kernel
theorem dX8_octet_59 : decode cX8_octet 59 = .ok (.i2b, 1) := by decide +kernel
theorem dX8_octet_60 : decode cX8_octet 60 = .ok (.goto 4, 3) := by decide +kernel
theorem dX8_octet_63 : decode cX8_octet 63 = .ok (.iconst 0, 1) := by decide +kernel
theorem dX8_octet_64 : decode cX8_octet 64 = .ok (.ireturn, 1) := by decide +kernel
theorem dX8_plain_0 : decode cX8_plain 0 = .ok (.aload_n 0, 1) := by decide +kernel
theorem dX8_plain_1 : decode cX8_plain 1 = .ok (.iload_n 1, 1) := by decide +kernel
theorem dX8_plain_2 : decode cX8_plain 2 = .ok (.iconst 3, 1) := by decide +kernel
theorem dX8_plain_3 : decode cX8_plain 3 = .ok (.if_icmp .eq 8, 3) := by decide +kernel
theorem dX8_plain_6 : decode cX8_plain 6 = .ok (.iload_n 1, 1) := by decide +kernel
theorem dX8_plain_7 : decode cX8_plain 7 = .ok (.iconst 4, 1) := by decide +kernel
theorem dX8_plain_8 : decode cX8_plain 8 = .ok (.if_icmp .ne 14, 3) := by decide +kernel
theorem dX8_plain_11 : decode cX8_plain 11 = .ok (.lload 4, 2) := by decide +kernel
theorem dX8_plain_13 : decode cX8_plain 13 = .ok (.lconst 0, 1) := by decide +kernel
theorem dX8_plain_14 : decode cX8_plain 14 = .ok (.lcmp, 1) := by decide +kernel
theorem dX8_plain_15 : decode cX8_plain 15 = .ok (.ifCond .ne 7, 3) := by decide +kernel
theorem dX8_plain_18 : decode cX8_plain 18 = .ok (.iconst 1, 1) := by decide +kernel
theorem dX8_plain_19 : decode cX8_plain 19 = .ok (.goto 19, 3) := by decide +kernel
theorem dX8_plain_22 : decode cX8_plain 22 = .ok (.iload_n 1, 1) := by decide +kernel
theorem dX8_plain_23 : decode cX8_plain 23 = .ok (.iconst 5, 1) := by decide +kernel
theorem dX8_plain_24 : decode cX8_plain 24 = .ok (.if_icmp .ne 13, 3) := by decide +kernel
theorem dX8_plain_27 : decode cX8_plain 27 = .ok (.lload_n 2, 1) := by decide +kernel
theorem dX8_plain_28 : decode cX8_plain 28 = .ok (.lconst 0, 1) := by decide +kernel
theorem dX8_plain_29 : decode cX8_plain 29 = .ok (.lcmp, 1) := by decide +kernel
theorem dX8_plain_30 : decode cX8_plain 30 = .ok (.ifCond .ge 7, 3) := by decide +kernel
theorem dX8_plain_33 : decode cX8_plain 33 = .ok (.iconst 2, 1) := by decide +kernel
theorem dX8_plain_34 : decode cX8_plain 34 = .ok (.goto 4, 3) := by decide +kernel
theorem dX8_plain_37 : decode cX8_plain 37 = .ok (.iconst 0, 1) := by decide +kernel
theorem dX8_plain_38 : decode cX8_plain 38 = .ok (.putfield 87, 3) := by decide +kernel
theorem dX8_plain_41 : decode cX8_plain 41 = .ok (.aload_n 0, 1) := by decide +kernel
theorem dX8_plain_42 : decode cX8_plain 42 = .ok (.getfield 87, 3) := by decide +kernel
theorem dX8_plain_45 : decode cX8_plain 45 = .ok (.ifCond .le 5, 3) := by decide +kernel
theorem dX8_plain_48 : decode cX8_plain 48 = .ok (.lconst 0, 1) := by decide +kernel
theorem dX8_plain_49 : decode cX8_plain 49 = .ok (.lreturn, 1) := by decide +kernel
theorem dX8_plain_50 : decode cX8_plain 50 = .ok (.iload_n 1, 1) := by decide +kernel
theorem dX8_plain_51 : decode cX8_plain 51 = .ok (.tableswitch 106 0 5 #[37, 42, 47, 52, 72, 90], 37) := by decide +kernel
theorem dX8_plain_88 : decode cX8_plain 88 = .ok (.lload_n 2, 1) := by decide +kernel
theorem dX8_plain_89 : decode cX8_plain 89 = .ok (.lload 4, 2) := by decide +kernel
theorem dX8_plain_91 : decode cX8_plain 91 = .ok (.ladd, 1) := by decide +kernel
theorem dX8_plain_92 : decode cX8_plain 92 = .ok (.lreturn, 1) := by decide +kernel
theorem dX8_plain_93 : decode cX8_plain 93 = .ok (.lload_n 2, 1) := by decide +kernel
theorem dX8_plain_94 : decode cX8_plain 94 = .ok (.lload 4, 2) := by decide +kernel
theorem dX8_plain_96 : decode cX8_plain 96 = .ok (.lsub, 1) := by decide +kernel
theorem dX8_plain_97 : decode cX8_plain 97 = .ok (.lreturn, 1) := by decide +kernel
theorem dX8_plain_98 : decode cX8_plain 98 = .ok (.lload_n 2, 1) := by decide +kernel
theorem dX8_plain_99 : decode cX8_plain 99 = .ok (.lload 4, 2) := by decide +kernel
theorem dX8_plain_101 : decode cX8_plain 101 = .ok (.lmul, 1) := by decide +kernel
theorem dX8_plain_102 : decode cX8_plain 102 = .ok (.lreturn, 1) := by decide +kernel
theorem dX8_plain_103 : decode cX8_plain 103 = .ok (.lload 4, 2) := by decide +kernel
theorem dX8_plain_105 : decode cX8_plain 105 = .ok (.ldc2_w 243, 3) := by decide +kernel
theorem dX8_plain_108 : decode cX8_plain 108 = .ok (.lcmp, 1) := by decide +kernel
theorem dX8_plain_109 : decode cX8_plain 109 = .ok (.ifCond .ne 9, 3) := by decide +kernel
theorem dX8_plain_112 : decode cX8_plain 112 = .ok (.lconst 0, 1) := by decide +kernel
theorem dX8_plain_113 : decode cX8_plain 113 = .ok (.lload_n 2, 1) := by decide +kernel
theorem dX8_plain_114 : decode cX8_plain 114 = .ok (.lsub, 1) := by decide +kernel
theorem dX8_plain_115 : decode cX8_plain 115 = .ok (.goto 7, 3) := by decide +kernel
theorem dX8_plain_118 : decode cX8_plain 118 = .ok (.lload_n 2, 1) := by decide +kernel
theorem dX8_plain_119 : decode cX8_plain 119 = .ok (.lload 4, 2) := by decide +kernel
theorem dX8_plain_121 : decode cX8_plain 121 = .ok (.ldiv, 1) := by decide +kernel
theorem dX8_plain_122 : decode cX8_plain 122 = .ok (.lreturn, 1) := by decide +kernel
theorem dX8_plain_123 : decode cX8_plain 123 = .ok (.lload 4, 2) := by decide +kernel
theorem dX8_plain_125 : decode cX8_plain 125 = .ok (.ldc2_w 243, 3) := by decide +kernel
theorem dX8_plain_128 : decode cX8_plain 128 = .ok (.lcmp, 1) := by decide +kernel
theorem dX8_plain_129 : decode cX8_plain 129 = .ok (.ifCond .ne 7, 3) := by decide +kernel
theorem dX8_plain_132 : decode cX8_plain 132 = .ok (.lconst 0, 1) := by decide +kernel
theorem dX8_plain_133 : decode cX8_plain 133 = .ok (.goto 7, 3) := by decide +kernel
theorem dX8_plain_136 : decode cX8_plain 136 = .ok (.lload_n 2, 1) := by decide +kernel
theorem dX8_plain_137 : decode cX8_plain 137 = .ok (.lload 4, 2) := by decide +kernel
theorem dX8_plain_139 : decode cX8_plain 139 = .ok (.lrem, 1) := by decide +kernel
theorem dX8_plain_140 : decode cX8_plain 140 = .ok (.lreturn, 1) := by decide +kernel
theorem dX8_plain_141 : decode cX8_plain 141 = .ok (.lload_n 2, 1) := by decide +kernel
theorem dX8_plain_142 : decode cX8_plain 142 = .ok (.ldc2_w 245, 3) := by decide +kernel
theorem dX8_plain_145 : decode cX8_plain 145 = .ok (.lcmp, 1) := by decide +kernel
theorem dX8_plain_146 : decode cX8_plain 146 = .ok (.ifCond .le 9, 3) := by decide +kernel
theorem dX8_plain_149 : decode cX8_plain 149 = .ok (.ldc2_w 245, 3) := by decide +kernel
theorem dX8_plain_152 : decode cX8_plain 152 = .ok (.goto 4, 3) := by decide +kernel
theorem dX8_plain_155 : decode cX8_plain 155 = .ok (.lload_n 2, 1) := by decide +kernel
theorem dX8_plain_156 : decode cX8_plain 156 = .ok (.lreturn, 1) := by decide +kernel
theorem dX8_plain_157 : decode cX8_plain 157 = .ok (.lconst 0, 1) := by decide +kernel
theorem dX8_plain_158 : decode cX8_plain 158 = .ok (.lreturn, 1) := by decide +kernel
theorem dX8_count_0 : decode cX8_count 0 = .ok (.aload_n 0, 1) := by decide +kernel
theorem dX8_count_1 : decode cX8_count 1 = .ok (.iconst 0, 1) := by decide +kernel
theorem dX8_count_2 : decode cX8_count 2 = .ok (.putfield 87, 3) := by decide +kernel
theorem dX8_count_5 : decode cX8_count 5 = .ok (.iload_n 1, 1) := by decide +kernel
theorem dX8_count_6 : decode cX8_count 6 = .ok (.tableswitch 67 0 3 #[30, 35, 40, 45], 30) := by decide +kernel
theorem dX8_count_36 : decode cX8_count 36 = .ok (.aload_n 0, 1) := by decide +kernel
theorem dX8_count_37 : decode cX8_count 37 = .ok (.getfield 91, 3) := by decide +kernel
theorem dX8_count_40 : decode cX8_count 40 = .ok (.ireturn, 1) := by decide +kernel
theorem dX8_count_41 : decode cX8_count 41 = .ok (.aload_n 0, 1) := by decide +kernel
theorem dX8_count_42 : decode cX8_count 42 = .ok (.getfield 94, 3) := by decide +kernel
theorem dX8_count_45 : decode cX8_count 45 = .ok (.ireturn, 1) := by decide +kernel
theorem dX8_count_46 : decode cX8_count 46 = .ok (.aload_n 0, 1) := by decide +kernel
theorem dX8_count_47 : decode cX8_count 47 = .ok (.getfield 113, 3) := by decide +kernel
theorem dX8_count_50 : decode cX8_count 50 = .ok (.ireturn, 1) := by decide +kernel
theorem dX8_count_51 : decode cX8_count 51 = .ok (.aload_n 0, 1) := by decide +kernel
theorem dX8_count_52 : decode cX8_count 52 = .ok (.getfield 113, 3) := by decide +kernel
theorem dX8_count_55 : decode cX8_count 55 = .ok (.ifCond .ne 5, 3) := by decide +kernel
theorem dX8_count_58 : decode cX8_count 58 = .ok (.iconst 0, 1) := by decide +kernel
theorem dX8_count_59 : decode cX8_count 59 = .ok (.ireturn, 1) := by decide +kernel
theorem dX8_count_60 : decode cX8_count 60 = .ok (.aload_n 0, 1) := by decide +kernel
theorem dX8_count_61 : decode cX8_count 61 = .ok (.aload_n 0, 1) := by decide +kernel
theorem dX8_count_62 : decode cX8_count 62 = .ok (.getfield 113, 3) := by decide +kernel
theorem dX8_count_65 : decode cX8_count 65 = .ok (.invokevirtual 240, 3) := by decide +kernel
theorem dX8_count_68 : decode cX8_count 68 = .ok (.aload_n 0, 1) := by decide +kernel
theorem dX8_count_69 : decode cX8_count 69 = .ok (.getfield 135, 3) := by decide +kernel
theorem dX8_count_72 : decode cX8_count 72 = .ok (.ireturn, 1) := by decide +kernel
theorem dX8_count_73 : decode cX8_count 73 = .ok (.iconst (-1), 1) := by decide +kernel
theorem dX8_count_74 : decode cX8_count 74 = .ok (.ireturn, 1) := by decide +kernel
theorem dJx00060_init_a7421_0 : decode cJx00060_init_a7421 0 = .ok (.aload_n 0, 1) := by decide +kernel
theorem dJx00060_init_a7421_1 : decode cJx00060_init_a7421 1 = .ok (.aload_n 1, 1) := by decide +kernel
theorem dJx00060_init_a7421_2 : decode cJx00060_init_a7421 2 = .ok (.invokespecial 7, 3) := by decide +kernel
theorem dJx00060_init_a7421_5 : decode cJx00060_init_a7421 5 = .ok (.return_, 1) := by decide +kernel
theorem dJ9_min_7cf53_0 : decode cJ9_min_7cf53 0 = .ok (.iload_n 0, 1) := by decide +kernel
theorem dJ9_min_7cf53_1 : decode cJ9_min_7cf53 1 = .ok (.iload_n 1, 1) := by decide +kernel
theorem dJ9_min_7cf53_2 : decode cJ9_min_7cf53 2 = .ok (.if_icmp .gt 7, 3) := by decide +kernel
theorem dJ9_min_7cf53_5 : decode cJ9_min_7cf53 5 = .ok (.iload_n 0, 1) := by decide +kernel
theorem dJ9_min_7cf53_6 : decode cJ9_min_7cf53 6 = .ok (.goto 4, 3) := by decide +kernel
theorem dJ9_min_7cf53_9 : decode cJ9_min_7cf53 9 = .ok (.iload_n 1, 1) := by decide +kernel
theorem dJ9_min_7cf53_10 : decode cJ9_min_7cf53 10 = .ok (.ireturn, 1) := by decide +kernel
theorem dJ9_min_f86c9_0 : decode cJ9_min_f86c9 0 = .ok (.lload_n 0, 1) := by decide +kernel
theorem dJ9_min_f86c9_1 : decode cJ9_min_f86c9 1 = .ok (.lload_n 2, 1) := by decide +kernel
theorem dJ9_min_f86c9_2 : decode cJ9_min_f86c9 2 = .ok (.lcmp, 1) := by decide +kernel
theorem dJ9_min_f86c9_3 : decode cJ9_min_f86c9 3 = .ok (.ifCond .gt 7, 3) := by decide +kernel
theorem dJ9_min_f86c9_6 : decode cJ9_min_f86c9 6 = .ok (.lload_n 0, 1) := by decide +kernel
theorem dJ9_min_f86c9_7 : decode cJ9_min_f86c9 7 = .ok (.goto 4, 3) := by decide +kernel
theorem dJ9_min_f86c9_10 : decode cJ9_min_f86c9 10 = .ok (.lload_n 2, 1) := by decide +kernel
theorem dJ9_min_f86c9_11 : decode cJ9_min_f86c9 11 = .ok (.lreturn, 1) := by decide +kernel
theorem dJxde1cd_init_a7421_0 : decode cJxde1cd_init_a7421 0 = .ok (.aload_n 0, 1) := by decide +kernel
theorem dJxde1cd_init_a7421_1 : decode cJxde1cd_init_a7421 1 = .ok (.aload_n 1, 1) := by decide +kernel
theorem dJxde1cd_init_a7421_2 : decode cJxde1cd_init_a7421 2 = .ok (.invokespecial 7, 3) := by decide +kernel
theorem dJxde1cd_init_a7421_5 : decode cJxde1cd_init_a7421 5 = .ok (.return_, 1) := by decide +kernel
theorem dJ0_length_8abf5_0 : decode cJ0_length_8abf5 0 = .ok (.aload_n 0, 1) := by decide +kernel
theorem dJ0_length_8abf5_1 : decode cJ0_length_8abf5 1 = .ok (.getfield 9, 3) := by decide +kernel
theorem dJ0_length_8abf5_4 : decode cJ0_length_8abf5 4 = .ok (.arraylength, 1) := by decide +kernel
theorem dJ0_length_8abf5_5 : decode cJ0_length_8abf5 5 = .ok (.aload_n 0, 1) := by decide +kernel
theorem dJ0_length_8abf5_6 : decode cJ0_length_8abf5 6 = .ok (.invokevirtual 335, 3) := by decide +kernel
theorem dJ0_length_8abf5_9 : decode cJ0_length_8abf5 9 = .ok (.ishr, 1) := by decide +kernel
theorem dJ0_length_8abf5_10 : decode cJ0_length_8abf5 10 = .ok (.ireturn, 1) := by decide +kernel
theorem dJ0_charAt_5068e_0 : decode cJ0_charAt_5068e 0 = .ok (.aload_n 0, 1) := by decide +kernel
theorem dJ0_charAt_5068e_1 : decode cJ0_charAt_5068e 1 = .ok (.invokevirtual 492, 3) := by decide +kernel
theorem dJ0_charAt_5068e_4 : decode cJ0_charAt_5068e 4 = .ok (.ifCond .eq 12, 3) := by decide +kernel
theorem dJ0_charAt_5068e_7 : decode cJ0_charAt_5068e 7 = .ok (.aload_n 0, 1) := by decide +kernel
theorem dJ0_charAt_5068e_8 : decode cJ0_charAt_5068e 8 = .ok (.getfield 9, 3) := by decide +kernel
theorem dJ0_charAt_5068e_11 : decode cJ0_charAt_5068e 11 = .ok (.iload_n 1, 1) := by decide +kernel
theorem dJ0_charAt_5068e_12 : decode cJ0_charAt_5068e 12 = .ok (.invokestatic 495, 3) := by decide +kernel
theorem dJ0_charAt_5068e_15 : decode cJ0_charAt_5068e 15 = .ok (.ireturn, 1) := by decide +kernel
theorem dJ0_charAt_5068e_16 : decode cJ0_charAt_5068e 16 = .ok (.aload_n 0, 1) := by decide +kernel
theorem dJ0_charAt_5068e_17 : decode cJ0_charAt_5068e 17 = .ok (.getfield 9, 3) := by decide +kernel
theorem dJ0_charAt_5068e_20 : decode cJ0_charAt_5068e 20 = .ok (.iload_n 1, 1) := by decide +kernel
theorem dJ0_charAt_5068e_21 : decode cJ0_charAt_5068e 21 = .ok (.invokestatic 498, 3) := by decide +kernel
theorem dJ0_charAt_5068e_24 : decode cJ0_charAt_5068e 24 = .ok (.ireturn, 1) := by decide +kernel
theorem dJ0_coder_7d493_0 : decode cJ0_coder_7d493 0 = .ok (.getstatic 38, 3) := by decide +kernel
theorem dJ0_coder_7d493_3 : decode cJ0_coder_7d493 3 = .ok (.ifCond .eq 10, 3) := by decide +kernel
theorem dJ0_coder_7d493_6 : decode cJ0_coder_7d493 6 = .ok (.aload_n 0, 1) := by decide +kernel
theorem dJ0_coder_7d493_7 : decode cJ0_coder_7d493 7 = .ok (.getfield 15, 3) := by decide +kernel
theorem dJ0_coder_7d493_10 : decode cJ0_coder_7d493 10 = .ok (.goto 4, 3) := by decide +kernel
theorem dJ0_coder_7d493_13 : decode cJ0_coder_7d493 13 = .ok (.iconst 1, 1) := by decide +kernel
theorem dJ0_coder_7d493_14 : decode cJ0_coder_7d493 14 = .ok (.ireturn, 1) := by decide +kernel
theorem dJ0_isLatin1_aae02_0 : decode cJ0_isLatin1_aae02 0 = .ok (.getstatic 38, 3) := by decide +kernel
theorem dJ0_isLatin1_aae02_3 : decode cJ0_isLatin1_aae02 3 = .ok (.ifCond .eq 14, 3) := by decide +kernel
theorem dJ0_isLatin1_aae02_6 : decode cJ0_isLatin1_aae02 6 = .ok (.aload_n 0, 1) := by decide +kernel
theorem dJ0_isLatin1_aae02_7 : decode cJ0_isLatin1_aae02 7 = .ok (.getfield 15, 3) := by decide +kernel
theorem dJ0_isLatin1_aae02_10 : decode cJ0_isLatin1_aae02 10 = .ok (.ifCond .ne 7, 3) := by decide +kernel
theorem dJ0_isLatin1_aae02_13 : decode cJ0_isLatin1_aae02 13 = .ok (.iconst 1, 1) := by decide +kernel
theorem dJ0_isLatin1_aae02_14 : decode cJ0_isLatin1_aae02 14 = .ok (.goto 4, 3) := by decide +kernel
theorem dJ0_isLatin1_aae02_17 : decode cJ0_isLatin1_aae02 17 = .ok (.iconst 0, 1) := by decide +kernel
theorem dJ0_isLatin1_aae02_18 : decode cJ0_isLatin1_aae02 18 = .ok (.ireturn, 1) := by decide +kernel
theorem dJ0_checkIndex_df160_0 : decode cJ0_checkIndex_df160 0 = .ok (.iload_n 0, 1) := by decide +kernel
theorem dJ0_checkIndex_df160_1 : decode cJ0_checkIndex_df160 1 = .ok (.iload_n 1, 1) := by decide +kernel
theorem dJ0_checkIndex_df160_2 : decode cJ0_checkIndex_df160 2 = .ok (.getstatic 1053, 3) := by decide +kernel
theorem dJ0_checkIndex_df160_5 : decode cJ0_checkIndex_df160 5 = .ok (.invokestatic 1059, 3) := by decide +kernel
theorem dJ0_checkIndex_df160_8 : decode cJ0_checkIndex_df160 8 = .ok (.pop, 1) := by decide +kernel
theorem dJ0_checkIndex_df160_9 : decode cJ0_checkIndex_df160 9 = .ok (.return_, 1) := by decide +kernel
theorem dJ1_charAt_3b067_0 : decode cJ1_charAt_3b067 0 = .ok (.iload_n 1, 1) := by decide +kernel
theorem dJ1_charAt_3b067_1 : decode cJ1_charAt_3b067 1 = .ok (.aload_n 0, 1) := by decide +kernel
theorem dJ1_charAt_3b067_2 : decode cJ1_charAt_3b067 2 = .ok (.arraylength, 1) := by decide +kernel
theorem dJ1_charAt_3b067_3 : decode cJ1_charAt_3b067 3 = .ok (.invokestatic 9, 3) := by decide +kernel
theorem dJ1_charAt_3b067_6 : decode cJ1_charAt_3b067 6 = .ok (.aload_n 0, 1) := by decide +kernel
theorem dJ1_charAt_3b067_7 : decode cJ1_charAt_3b067 7 = .ok (.iload_n 1, 1) := by decide +kernel
theorem dJ1_charAt_3b067_8 : decode cJ1_charAt_3b067 8 = .ok (.baload, 1) := by decide +kernel
theorem dJ1_charAt_3b067_9 : decode cJ1_charAt_3b067 9 = .ok (.sipush 255, 3) := by decide +kernel
theorem dJ1_charAt_3b067_12 : decode cJ1_charAt_3b067 12 = .ok (.iand, 1) := by decide +kernel
theorem dJ1_charAt_3b067_13 : decode cJ1_charAt_3b067 13 = .ok (.i2c, 1) := by decide +kernel
theorem dJ1_charAt_3b067_14 : decode cJ1_charAt_3b067 14 = .ok (.ireturn, 1) := by decide +kernel
theorem dJ2_getChar_3b067_0 : decode cJ2_getChar_3b067 0 = .ok (.getstatic 44, 3) := by decide +kernel
theorem dJ2_getChar_3b067_3 : decode cJ2_getChar_3b067 3 = .ok (.ifCond .ne 25, 3) := by decide +kernel
theorem dJ2_getChar_3b067_6 : decode cJ2_getChar_3b067 6 = .ok (.iload_n 1, 1) := by decide +kernel
theorem dJ2_getChar_3b067_7 : decode cJ2_getChar_3b067 7 = .ok (.ifCond .lt 11, 3) := by decide +kernel
theorem dJ2_getChar_3b067_10 : decode cJ2_getChar_3b067 10 = .ok (.iload_n 1, 1) := by decide +kernel
theorem dJ2_getChar_3b067_11 : decode cJ2_getChar_3b067 11 = .ok (.aload_n 0, 1) := by decide +kernel
theorem dJ2_getChar_3b067_12 : decode cJ2_getChar_3b067 12 = .ok (.invokestatic 48, 3) := by decide +kernel
theorem dJ2_getChar_3b067_15 : decode cJ2_getChar_3b067 15 = .ok (.if_icmp .lt 13, 3) := by decide +kernel
theorem dJ2_getChar_3b067_18 : decode cJ2_getChar_3b067 18 = .ok (.new 52, 3) := by decide +kernel
theorem dJ2_getChar_3b067_21 : decode cJ2_getChar_3b067 21 = .ok (.dup, 1) := by decide +kernel
theorem dJ2_getChar_3b067_22 : decode cJ2_getChar_3b067 22 = .ok (.ldc 54, 2) := by decide +kernel
theorem dJ2_getChar_3b067_24 : decode cJ2_getChar_3b067 24 = .ok (.invokespecial 56, 3) := by decide +kernel
theorem dJ2_getChar_3b067_27 : decode cJ2_getChar_3b067 27 = .ok (.athrow, 1) := by decide +kernel
theorem dJ2_getChar_3b067_28 : decode cJ2_getChar_3b067 28 = .ok (.iload_n 1, 1) := by decide +kernel
theorem dJ2_getChar_3b067_29 : decode cJ2_getChar_3b067 29 = .ok (.iconst 1, 1) := by decide +kernel
theorem dJ2_getChar_3b067_30 : decode cJ2_getChar_3b067 30 = .ok (.ishl, 1) := by decide +kernel
theorem dJ2_getChar_3b067_31 : decode cJ2_getChar_3b067 31 = .ok (.istore_n 1, 1) := by decide +kernel
theorem dJ2_getChar_3b067_32 : decode cJ2_getChar_3b067 32 = .ok (.aload_n 0, 1) := by decide +kernel
theorem dJ2_getChar_3b067_33 : decode cJ2_getChar_3b067 33 = .ok (.iload_n 1, 1) := by decide +kernel
theorem dJ2_getChar_3b067_34 : decode cJ2_getChar_3b067 34 = .ok (.iinc 1 1, 3) := by decide +kernel
theorem dJ2_getChar_3b067_37 : decode cJ2_getChar_3b067 37 = .ok (.baload, 1) := by decide +kernel
theorem dJ2_getChar_3b067_38 : decode cJ2_getChar_3b067 38 = .ok (.sipush 255, 3) := by decide +kernel
theorem dJ2_getChar_3b067_41 : decode cJ2_getChar_3b067 41 = .ok (.iand, 1) := by decide +kernel
theorem dJ2_getChar_3b067_42 : decode cJ2_getChar_3b067 42 = .ok (.getstatic 59, 3) := by decide +kernel
theorem dJ2_getChar_3b067_45 : decode cJ2_getChar_3b067 45 = .ok (.ishl, 1) := by decide +kernel
theorem dJ2_getChar_3b067_46 : decode cJ2_getChar_3b067 46 = .ok (.aload_n 0, 1) := by decide +kernel
theorem dJ2_getChar_3b067_47 : decode cJ2_getChar_3b067 47 = .ok (.iload_n 1, 1) := by decide +kernel
theorem dJ2_getChar_3b067_48 : decode cJ2_getChar_3b067 48 = .ok (.baload, 1) := by decide +kernel
theorem dJ2_getChar_3b067_49 : decode cJ2_getChar_3b067 49 = .ok (.sipush 255, 3) := by decide +kernel
theorem dJ2_getChar_3b067_52 : decode cJ2_getChar_3b067 52 = .ok (.iand, 1) := by decide +kernel
theorem dJ2_getChar_3b067_53 : decode cJ2_getChar_3b067 53 = .ok (.getstatic 63, 3) := by decide +kernel
theorem dJ2_getChar_3b067_56 : decode cJ2_getChar_3b067 56 = .ok (.ishl, 1) := by decide +kernel
theorem dJ2_getChar_3b067_57 : decode cJ2_getChar_3b067 57 = .ok (.ior, 1) := by decide +kernel
theorem dJ2_getChar_3b067_58 : decode cJ2_getChar_3b067 58 = .ok (.i2c, 1) := by decide +kernel
theorem dJ2_getChar_3b067_59 : decode cJ2_getChar_3b067 59 = .ok (.ireturn, 1) := by decide +kernel
theorem dJ2_length_9d52b_0 : decode cJ2_length_9d52b 0 = .ok (.aload_n 0, 1) := by decide +kernel
theorem dJ2_length_9d52b_1 : decode cJ2_length_9d52b 1 = .ok (.arraylength, 1) := by decide +kernel
theorem dJ2_length_9d52b_2 : decode cJ2_length_9d52b 2 = .ok (.iconst 1, 1) := by decide +kernel
theorem dJ2_length_9d52b_3 : decode cJ2_length_9d52b 3 = .ok (.ishr, 1) := by decide +kernel
theorem dJ2_length_9d52b_4 : decode cJ2_length_9d52b 4 = .ok (.ireturn, 1) := by decide +kernel
theorem dJ2_charAt_3b067_0 : decode cJ2_charAt_3b067 0 = .ok (.iload_n 1, 1) := by decide +kernel
theorem dJ2_charAt_3b067_1 : decode cJ2_charAt_3b067 1 = .ok (.aload_n 0, 1) := by decide +kernel
theorem dJ2_charAt_3b067_2 : decode cJ2_charAt_3b067 2 = .ok (.invokestatic 67, 3) := by decide +kernel
theorem dJ2_charAt_3b067_5 : decode cJ2_charAt_3b067 5 = .ok (.aload_n 0, 1) := by decide +kernel
theorem dJ2_charAt_3b067_6 : decode cJ2_charAt_3b067 6 = .ok (.iload_n 1, 1) := by decide +kernel
theorem dJ2_charAt_3b067_7 : decode cJ2_charAt_3b067 7 = .ok (.invokestatic 71, 3) := by decide +kernel
theorem dJ2_charAt_3b067_10 : decode cJ2_charAt_3b067 10 = .ok (.ireturn, 1) := by decide +kernel
theorem dJ2_checkIndex_2214a_0 : decode cJ2_checkIndex_2214a 0 = .ok (.iload_n 0, 1) := by decide +kernel
theorem dJ2_checkIndex_2214a_1 : decode cJ2_checkIndex_2214a 1 = .ok (.aload_n 1, 1) := by decide +kernel
theorem dJ2_checkIndex_2214a_2 : decode cJ2_checkIndex_2214a 2 = .ok (.invokestatic 48, 3) := by decide +kernel
theorem dJ2_checkIndex_2214a_5 : decode cJ2_checkIndex_2214a 5 = .ok (.invokestatic 414, 3) := by decide +kernel
theorem dJ2_checkIndex_2214a_8 : decode cJ2_checkIndex_2214a 8 = .ok (.return_, 1) := by decide +kernel
theorem dJ7_fill_031fb_0 : decode cJ7_fill_031fb 0 = .ok (.iconst 0, 1) := by decide +kernel
theorem dJ7_fill_031fb_1 : decode cJ7_fill_031fb 1 = .ok (.istore_n 2, 1) := by decide +kernel
theorem dJ7_fill_031fb_2 : decode cJ7_fill_031fb 2 = .ok (.aload_n 0, 1) := by decide +kernel
theorem dJ7_fill_031fb_3 : decode cJ7_fill_031fb 3 = .ok (.arraylength, 1) := by decide +kernel
theorem dJ7_fill_031fb_4 : decode cJ7_fill_031fb 4 = .ok (.istore_n 3, 1) := by decide +kernel
theorem dJ7_fill_031fb_5 : decode cJ7_fill_031fb 5 = .ok (.iload_n 2, 1) := by decide +kernel
theorem dJ7_fill_031fb_6 : decode cJ7_fill_031fb 6 = .ok (.iload_n 3, 1) := by decide +kernel
theorem dJ7_fill_031fb_7 : decode cJ7_fill_031fb 7 = .ok (.if_icmp .ge 13, 3) := by decide +kernel
theorem dJ7_fill_031fb_10 : decode cJ7_fill_031fb 10 = .ok (.aload_n 0, 1) := by decide +kernel
theorem dJ7_fill_031fb_11 : decode cJ7_fill_031fb 11 = .ok (.iload_n 2, 1) := by decide +kernel
theorem dJ7_fill_031fb_12 : decode cJ7_fill_031fb 12 = .ok (.iload_n 1, 1) := by decide +kernel
theorem dJ7_fill_031fb_13 : decode cJ7_fill_031fb 13 = .ok (.bastore, 1) := by decide +kernel
theorem dJ7_fill_031fb_14 : decode cJ7_fill_031fb 14 = .ok (.iinc 2 1, 3) := by decide +kernel
theorem dJ7_fill_031fb_17 : decode cJ7_fill_031fb 17 = .ok (.goto (-12), 3) := by decide +kernel
theorem dJ7_fill_031fb_20 : decode cJ7_fill_031fb 20 = .ok (.return_, 1) := by decide +kernel
theorem dJ7_copyOf_9075b_0 : decode cJ7_copyOf_9075b 0 = .ok (.iload_n 1, 1) := by decide +kernel
theorem dJ7_copyOf_9075b_1 : decode cJ7_copyOf_9075b 1 = .ok (.aload_n 0, 1) := by decide +kernel
theorem dJ7_copyOf_9075b_2 : decode cJ7_copyOf_9075b 2 = .ok (.arraylength, 1) := by decide +kernel
theorem dJ7_copyOf_9075b_3 : decode cJ7_copyOf_9075b 3 = .ok (.if_icmp .ne 11, 3) := by decide +kernel
theorem dJ7_copyOf_9075b_6 : decode cJ7_copyOf_9075b 6 = .ok (.aload_n 0, 1) := by decide +kernel
theorem dJ7_copyOf_9075b_7 : decode cJ7_copyOf_9075b 7 = .ok (.invokevirtual 310, 3) := by decide +kernel
theorem dJ7_copyOf_9075b_10 : decode cJ7_copyOf_9075b 10 = .ok (.checkcast 311, 3) := by decide +kernel
theorem dJ7_copyOf_9075b_13 : decode cJ7_copyOf_9075b 13 = .ok (.areturn, 1) := by decide +kernel
theorem dJ7_copyOf_9075b_14 : decode cJ7_copyOf_9075b 14 = .ok (.iload_n 1, 1) := by decide +kernel
theorem dJ7_copyOf_9075b_15 : decode cJ7_copyOf_9075b 15 = .ok (.newarray .byte, 2) := by decide +kernel
theorem dJ7_copyOf_9075b_17 : decode cJ7_copyOf_9075b 17 = .ok (.astore_n 2, 1) := by decide +kernel
theorem dJ7_copyOf_9075b_18 : decode cJ7_copyOf_9075b 18 = .ok (.aload_n 0, 1) := by decide +kernel
theorem dJ7_copyOf_9075b_19 : decode cJ7_copyOf_9075b 19 = .ok (.iconst 0, 1) := by decide +kernel
theorem dJ7_copyOf_9075b_20 : decode cJ7_copyOf_9075b 20 = .ok (.aload_n 2, 1) := by decide +kernel
theorem dJ7_copyOf_9075b_21 : decode cJ7_copyOf_9075b 21 = .ok (.iconst 0, 1) := by decide +kernel
theorem dJ7_copyOf_9075b_22 : decode cJ7_copyOf_9075b 22 = .ok (.aload_n 0, 1) := by decide +kernel
theorem dJ7_copyOf_9075b_23 : decode cJ7_copyOf_9075b 23 = .ok (.arraylength, 1) := by decide +kernel
theorem dJ7_copyOf_9075b_24 : decode cJ7_copyOf_9075b 24 = .ok (.iload_n 1, 1) := by decide +kernel
theorem dJ7_copyOf_9075b_25 : decode cJ7_copyOf_9075b 25 = .ok (.invokestatic 304, 3) := by decide +kernel
theorem dJ7_copyOf_9075b_28 : decode cJ7_copyOf_9075b 28 = .ok (.invokestatic 150, 3) := by decide +kernel
theorem dJ7_copyOf_9075b_31 : decode cJ7_copyOf_9075b 31 = .ok (.aload_n 2, 1) := by decide +kernel
theorem dJ7_copyOf_9075b_32 : decode cJ7_copyOf_9075b 32 = .ok (.areturn, 1) := by decide +kernel
theorem dJ3_checkIndex_8e157_0 : decode cJ3_checkIndex_8e157 0 = .ok (.iload_n 0, 1) := by decide +kernel
theorem dJ3_checkIndex_8e157_1 : decode cJ3_checkIndex_8e157 1 = .ok (.ifCond .lt 8, 3) := by decide +kernel
theorem dJ3_checkIndex_8e157_4 : decode cJ3_checkIndex_8e157 4 = .ok (.iload_n 0, 1) := by decide +kernel
theorem dJ3_checkIndex_8e157_5 : decode cJ3_checkIndex_8e157 5 = .ok (.iload_n 1, 1) := by decide +kernel
theorem dJ3_checkIndex_8e157_6 : decode cJ3_checkIndex_8e157 6 = .ok (.if_icmp .lt 10, 3) := by decide +kernel
theorem dJ3_checkIndex_8e157_9 : decode cJ3_checkIndex_8e157 9 = .ok (.aload_n 2, 1) := by decide +kernel
theorem dJ3_checkIndex_8e157_10 : decode cJ3_checkIndex_8e157 10 = .ok (.iload_n 0, 1) := by decide +kernel
theorem dJ3_checkIndex_8e157_11 : decode cJ3_checkIndex_8e157 11 = .ok (.iload_n 1, 1) := by decide +kernel
theorem dJ3_checkIndex_8e157_12 : decode cJ3_checkIndex_8e157 12 = .ok (.invokestatic 95, 3) := by decide +kernel
theorem dJ3_checkIndex_8e157_15 : decode cJ3_checkIndex_8e157 15 = .ok (.athrow, 1) := by decide +kernel
theorem dJ3_checkIndex_8e157_16 : decode cJ3_checkIndex_8e157 16 = .ok (.iload_n 0, 1) := by decide +kernel
theorem dJ3_checkIndex_8e157_17 : decode cJ3_checkIndex_8e157 17 = .ok (.ireturn, 1) := by decide +kernel
theorem dL_at_0 : decode cL_at 0 = .ok (.aload 4, 2) := by decide +kernel
theorem dL_at_2 : decode cL_at 2 = .ok (.iconst 0, 1) := by decide +kernel
theorem dL_at_3 : decode cL_at 3 = .ok (.aload_n 0, 1) := by decide +kernel
theorem dL_at_4 : decode cL_at 4 = .ok (.iload_n 1, 1) := by decide +kernel
theorem dL_at_5 : decode cL_at 5 = .ok (.iload_n 2, 1) := by decide +kernel
theorem dL_at_6 : decode cL_at 6 = .ok (.iload_n 3, 1) := by decide +kernel
theorem dL_at_7 : decode cL_at 7 = .ok (.invokevirtual 7, 3) := by decide +kernel
theorem dL_at_10 : decode cL_at 10 = .ok (.i2l, 1) := by decide +kernel
theorem dL_at_11 : decode cL_at 11 = .ok (.lastore, 1) := by decide +kernel
theorem dL_at_12 : decode cL_at 12 = .ok (.goto 7, 3) := by decide +kernel
theorem dL_at_15 : decode cL_at 15 = .ok (.astore 5, 2) := by decide +kernel
theorem dL_at_17 : decode cL_at 17 = .ok (.iconst 1, 1) := by decide +kernel
theorem dL_at_18 : decode cL_at 18 = .ok (.ireturn, 1) := by decide +kernel
theorem dL_at_19 : decode cL_at 19 = .ok (.iconst 0, 1) := by decide +kernel
theorem dL_at_20 : decode cL_at 20 = .ok (.ireturn, 1) := by decide +kernel
theorem dL_octet_0 : decode cL_octet 0 = .ok (.aload_n 3, 1) := by decide +kernel
theorem dL_octet_1 : decode cL_octet 1 = .ok (.iconst 0, 1) := by decide +kernel
theorem dL_octet_2 : decode cL_octet 2 = .ok (.aload_n 0, 1) := by decide +kernel
theorem dL_octet_3 : decode cL_octet 3 = .ok (.iload_n 1, 1) := by decide +kernel
theorem dL_octet_4 : decode cL_octet 4 = .ok (.iload_n 2, 1) := by decide +kernel
theorem dL_octet_5 : decode cL_octet 5 = .ok (.invokevirtual 15, 3) := by decide +kernel
theorem dL_octet_8 : decode cL_octet 8 = .ok (.i2l, 1) := by decide +kernel
theorem dL_octet_9 : decode cL_octet 9 = .ok (.lastore, 1) := by decide +kernel
theorem dL_octet_10 : decode cL_octet 10 = .ok (.goto 7, 3) := by decide +kernel
theorem dL_octet_13 : decode cL_octet 13 = .ok (.astore 4, 2) := by decide +kernel
theorem dL_octet_15 : decode cL_octet 15 = .ok (.iconst 1, 1) := by decide +kernel
theorem dL_octet_16 : decode cL_octet 16 = .ok (.ireturn, 1) := by decide +kernel
theorem dL_octet_17 : decode cL_octet 17 = .ok (.iconst 0, 1) := by decide +kernel
theorem dL_octet_18 : decode cL_octet 18 = .ok (.ireturn, 1) := by decide +kernel
theorem dL_plain_0 : decode cL_plain 0 = .ok (.aload 6, 2) := by decide +kernel
theorem dL_plain_2 : decode cL_plain 2 = .ok (.iconst 0, 1) := by decide +kernel
theorem dL_plain_3 : decode cL_plain 3 = .ok (.aload_n 0, 1) := by decide +kernel
theorem dL_plain_4 : decode cL_plain 4 = .ok (.iload_n 1, 1) := by decide +kernel
theorem dL_plain_5 : decode cL_plain 5 = .ok (.lload_n 2, 1) := by decide +kernel
theorem dL_plain_6 : decode cL_plain 6 = .ok (.lload 4, 2) := by decide +kernel
theorem dL_plain_8 : decode cL_plain 8 = .ok (.invokevirtual 19, 3) := by decide +kernel
theorem dL_plain_11 : decode cL_plain 11 = .ok (.lastore, 1) := by decide +kernel
theorem dL_plain_12 : decode cL_plain 12 = .ok (.goto 11, 3) := by decide +kernel
theorem dL_plain_15 : decode cL_plain 15 = .ok (.astore 7, 2) := by decide +kernel
theorem dL_plain_17 : decode cL_plain 17 = .ok (.iconst 1, 1) := by decide +kernel
theorem dL_plain_18 : decode cL_plain 18 = .ok (.ireturn, 1) := by decide +kernel
theorem dL_plain_19 : decode cL_plain 19 = .ok (.astore 7, 2) := by decide +kernel
theorem dL_plain_21 : decode cL_plain 21 = .ok (.iconst 2, 1) := by decide +kernel
theorem dL_plain_22 : decode cL_plain 22 = .ok (.ireturn, 1) := by decide +kernel
theorem dL_plain_23 : decode cL_plain 23 = .ok (.iconst 0, 1) := by decide +kernel
theorem dL_plain_24 : decode cL_plain 24 = .ok (.ireturn, 1) := by decide +kernel
theorem dL_law_0 : decode cL_law 0 = .ok (.new 8, 3) := by decide +kernel
theorem dL_law_3 : decode cL_law 3 = .ok (.dup, 1) := by decide +kernel
theorem dL_law_4 : decode cL_law 4 = .ok (.invokespecial 27, 3) := by decide +kernel
theorem dL_law_7 : decode cL_law 7 = .ok (.astore_n 1, 1) := by decide +kernel
theorem dL_law_8 : decode cL_law 8 = .ok (.new 28, 3) := by decide +kernel
theorem dL_law_11 : decode cL_law 11 = .ok (.dup, 1) := by decide +kernel
theorem dL_law_12 : decode cL_law 12 = .ok (.invokespecial 30, 3) := by decide +kernel
theorem dL_law_15 : decode cL_law 15 = .ok (.astore_n 2, 1) := by decide +kernel
theorem dL_law_16 : decode cL_law 16 = .ok (.iconst 1, 1) := by decide +kernel
theorem dL_law_17 : decode cL_law 17 = .ok (.newarray .long, 2) := by decide +kernel
theorem dL_law_19 : decode cL_law 19 = .ok (.astore_n 3, 1) := by decide +kernel
theorem dL_law_20 : decode cL_law 20 = .ok (.iconst 0, 1) := by decide +kernel
theorem dL_law_21 : decode cL_law 21 = .ok (.istore 4, 2) := by decide +kernel
theorem dL_law_23 : decode cL_law 23 = .ok (.iload 4, 2) := by decide +kernel
theorem dL_law_25 : decode cL_law 25 = .ok (.aload_n 0, 1) := by decide +kernel
theorem dL_law_26 : decode cL_law 26 = .ok (.arraylength, 1) := by decide +kernel
theorem dL_law_27 : decode cL_law 27 = .ok (.bipush 6, 2) := by decide +kernel
theorem dL_law_29 : decode cL_law 29 = .ok (.isub, 1) := by decide +kernel
theorem dL_law_30 : decode cL_law 30 = .ok (.if_icmp .gt 807, 3) := by decide +kernel
theorem dL_law_33 : decode cL_law 33 = .ok (.aload_n 0, 1) := by decide +kernel
theorem dL_law_34 : decode cL_law 34 = .ok (.iload 4, 2) := by decide +kernel
theorem dL_law_36 : decode cL_law 36 = .ok (.iaload, 1) := by decide +kernel
theorem dL_law_37 : decode cL_law 37 = .ok (.bipush 15, 2) := by decide +kernel
theorem dL_law_39 : decode cL_law 39 = .ok (.iand, 1) := by decide +kernel
theorem dL_law_40 : decode cL_law 40 = .ok (.tableswitch 791 0 14 #[76, 129, 190, 203, 240, 277, 357, 382, 419, 456, 524, 561, 598, 741, 766], 76) := by decide +kernel
theorem dL_law_116 : decode cL_law 116 = .ok (.aload_n 1, 1) := by decide +kernel
theorem dL_law_117 : decode cL_law 117 = .ok (.aload_n 0, 1) := by decide +kernel
theorem dL_law_118 : decode cL_law 118 = .ok (.iload 4, 2) := by decide +kernel
theorem dL_law_120 : decode cL_law 120 = .ok (.iconst 1, 1) := by decide +kernel
theorem dL_law_121 : decode cL_law 121 = .ok (.iadd, 1) := by decide +kernel
theorem dL_law_122 : decode cL_law 122 = .ok (.iaload, 1) := by decide +kernel
theorem dL_law_123 : decode cL_law 123 = .ok (.aload_n 0, 1) := by decide +kernel
theorem dL_law_124 : decode cL_law 124 = .ok (.iload 4, 2) := by decide +kernel
theorem dL_law_126 : decode cL_law 126 = .ok (.iconst 2, 1) := by decide +kernel
theorem dL_law_127 : decode cL_law 127 = .ok (.iadd, 1) := by decide +kernel
theorem dL_law_128 : decode cL_law 128 = .ok (.iaload, 1) := by decide +kernel
theorem dL_law_129 : decode cL_law 129 = .ok (.ifCond .eq 7, 3) := by decide +kernel
theorem dL_law_132 : decode cL_law 132 = .ok (.iconst 1, 1) := by decide +kernel
theorem dL_law_133 : decode cL_law 133 = .ok (.goto 4, 3) := by decide +kernel
theorem dL_law_136 : decode cL_law 136 = .ok (.iconst 0, 1) := by decide +kernel
theorem dL_law_137 : decode cL_law 137 = .ok (.invokevirtual 31, 3) := by decide +kernel
theorem dL_law_140 : decode cL_law 140 = .ok (.aload_n 2, 1) := by decide +kernel
theorem dL_law_141 : decode cL_law 141 = .ok (.aload_n 0, 1) := by decide +kernel
theorem dL_law_142 : decode cL_law 142 = .ok (.iload 4, 2) := by decide +kernel
theorem dL_law_144 : decode cL_law 144 = .ok (.iconst 1, 1) := by decide +kernel
theorem dL_law_145 : decode cL_law 145 = .ok (.iadd, 1) := by decide +kernel
theorem dL_law_146 : decode cL_law 146 = .ok (.iaload, 1) := by decide +kernel
theorem dL_law_147 : decode cL_law 147 = .ok (.aload_n 0, 1) := by decide +kernel
theorem dL_law_148 : decode cL_law 148 = .ok (.iload 4, 2) := by decide +kernel
theorem dL_law_150 : decode cL_law 150 = .ok (.iconst 2, 1) := by decide +kernel
theorem dL_law_151 : decode cL_law 151 = .ok (.iadd, 1) := by decide +kernel
theorem dL_law_152 : decode cL_law 152 = .ok (.iaload, 1) := by decide +kernel
theorem dL_law_153 : decode cL_law 153 = .ok (.ifCond .eq 7, 3) := by decide +kernel
theorem dL_law_156 : decode cL_law 156 = .ok (.iconst 1, 1) := by decide +kernel
theorem dL_law_157 : decode cL_law 157 = .ok (.goto 4, 3) := by decide +kernel
theorem dL_law_160 : decode cL_law 160 = .ok (.iconst 0, 1) := by decide +kernel
theorem dL_law_161 : decode cL_law 161 = .ok (.invokevirtual 35, 3) := by decide +kernel
theorem dL_law_164 : decode cL_law 164 = .ok (.if_icmp .eq 667, 3) := by decide +kernel
theorem dL_law_167 : decode cL_law 167 = .ok (.iconst 0, 1) := by decide +kernel
theorem dL_law_168 : decode cL_law 168 = .ok (.ireturn, 1) := by decide +kernel
theorem dL_law_169 : decode cL_law 169 = .ok (.aload_n 1, 1) := by decide +kernel
theorem dL_law_170 : decode cL_law 170 = .ok (.aload_n 0, 1) := by decide +kernel
theorem dL_law_171 : decode cL_law 171 = .ok (.iload 4, 2) := by decide +kernel
theorem dL_law_173 : decode cL_law 173 = .ok (.iconst 1, 1) := by decide +kernel
theorem dL_law_174 : decode cL_law 174 = .ok (.iadd, 1) := by decide +kernel
theorem dL_law_175 : decode cL_law 175 = .ok (.iaload, 1) := by decide +kernel
theorem dL_law_176 : decode cL_law 176 = .ok (.aload_n 0, 1) := by decide +kernel
theorem dL_law_177 : decode cL_law 177 = .ok (.iload 4, 2) := by decide +kernel
theorem dL_law_179 : decode cL_law 179 = .ok (.iconst 2, 1) := by decide +kernel
theorem dL_law_180 : decode cL_law 180 = .ok (.iadd, 1) := by decide +kernel
theorem dL_law_181 : decode cL_law 181 = .ok (.iaload, 1) := by decide +kernel
theorem dL_law_182 : decode cL_law 182 = .ok (.aload_n 0, 1) := by decide +kernel
theorem dL_law_183 : decode cL_law 183 = .ok (.iload 4, 2) := by decide +kernel
theorem dL_law_185 : decode cL_law 185 = .ok (.iconst 3, 1) := by decide +kernel
theorem dL_law_186 : decode cL_law 186 = .ok (.iadd, 1) := by decide +kernel
theorem dL_law_187 : decode cL_law 187 = .ok (.iaload, 1) := by decide +kernel
theorem dL_law_188 : decode cL_law 188 = .ok (.aload_n 0, 1) := by decide +kernel
theorem dL_law_189 : decode cL_law 189 = .ok (.iload 4, 2) := by decide +kernel
theorem dL_law_191 : decode cL_law 191 = .ok (.iconst 4, 1) := by decide +kernel
theorem dL_law_192 : decode cL_law 192 = .ok (.iadd, 1) := by decide +kernel
theorem dL_law_193 : decode cL_law 193 = .ok (.iaload, 1) := by decide +kernel
theorem dL_law_194 : decode cL_law 194 = .ok (.invokevirtual 36, 3) := by decide +kernel
theorem dL_law_197 : decode cL_law 197 = .ok (.aload_n 2, 1) := by decide +kernel
theorem dL_law_198 : decode cL_law 198 = .ok (.aload_n 0, 1) := by decide +kernel
theorem dL_law_199 : decode cL_law 199 = .ok (.iload 4, 2) := by decide +kernel
theorem dL_law_201 : decode cL_law 201 = .ok (.iconst 1, 1) := by decide +kernel
theorem dL_law_202 : decode cL_law 202 = .ok (.iadd, 1) := by decide +kernel
theorem dL_law_203 : decode cL_law 203 = .ok (.iaload, 1) := by decide +kernel
theorem dL_law_204 : decode cL_law 204 = .ok (.aload_n 0, 1) := by decide +kernel
theorem dL_law_205 : decode cL_law 205 = .ok (.iload 4, 2) := by decide +kernel
theorem dL_law_207 : decode cL_law 207 = .ok (.iconst 2, 1) := by decide +kernel
theorem dL_law_208 : decode cL_law 208 = .ok (.iadd, 1) := by decide +kernel
theorem dL_law_209 : decode cL_law 209 = .ok (.iaload, 1) := by decide +kernel
theorem dL_law_210 : decode cL_law 210 = .ok (.aload_n 0, 1) := by decide +kernel
theorem dL_law_211 : decode cL_law 211 = .ok (.iload 4, 2) := by decide +kernel
theorem dL_law_213 : decode cL_law 213 = .ok (.iconst 3, 1) := by decide +kernel
theorem dL_law_214 : decode cL_law 214 = .ok (.iadd, 1) := by decide +kernel
theorem dL_law_215 : decode cL_law 215 = .ok (.iaload, 1) := by decide +kernel
theorem dL_law_216 : decode cL_law 216 = .ok (.aload_n 0, 1) := by decide +kernel
theorem dL_law_217 : decode cL_law 217 = .ok (.iload 4, 2) := by decide +kernel
theorem dL_law_219 : decode cL_law 219 = .ok (.iconst 4, 1) := by decide +kernel
theorem dL_law_220 : decode cL_law 220 = .ok (.iadd, 1) := by decide +kernel
theorem dL_law_221 : decode cL_law 221 = .ok (.iaload, 1) := by decide +kernel
theorem dL_law_222 : decode cL_law 222 = .ok (.invokevirtual 40, 3) := by decide +kernel
theorem dL_law_225 : decode cL_law 225 = .ok (.if_icmp .eq 606, 3) := by decide +kernel
theorem dL_law_228 : decode cL_law 228 = .ok (.iconst 0, 1) := by decide +kernel
theorem dL_law_229 : decode cL_law 229 = .ok (.ireturn, 1) := by decide +kernel
theorem dL_law_230 : decode cL_law 230 = .ok (.aload_n 1, 1) := by decide +kernel
theorem dL_law_231 : decode cL_law 231 = .ok (.invokevirtual 41, 3) := by decide +kernel
theorem dL_law_234 : decode cL_law 234 = .ok (.aload_n 2, 1) := by decide +kernel
theorem dL_law_235 : decode cL_law 235 = .ok (.invokevirtual 45, 3) := by decide +kernel
theorem dL_law_238 : decode cL_law 238 = .ok (.if_icmp .eq 593, 3) := by decide +kernel
theorem dL_law_241 : decode cL_law 241 = .ok (.iconst 0, 1) := by decide +kernel
theorem dL_law_242 : decode cL_law 242 = .ok (.ireturn, 1) := by decide +kernel
theorem dL_law_243 : decode cL_law 243 = .ok (.aload_n 1, 1) := by decide +kernel
theorem dL_law_244 : decode cL_law 244 = .ok (.aload_n 0, 1) := by decide +kernel
theorem dL_law_245 : decode cL_law 245 = .ok (.iload 4, 2) := by decide +kernel
theorem dL_law_247 : decode cL_law 247 = .ok (.iconst 1, 1) := by decide +kernel
theorem dL_law_248 : decode cL_law 248 = .ok (.iadd, 1) := by decide +kernel
theorem dL_law_249 : decode cL_law 249 = .ok (.iaload, 1) := by decide +kernel
theorem dL_law_250 : decode cL_law 250 = .ok (.aload_n 0, 1) := by decide +kernel
theorem dL_law_251 : decode cL_law 251 = .ok (.iload 4, 2) := by decide +kernel
theorem dL_law_253 : decode cL_law 253 = .ok (.iconst 2, 1) := by decide +kernel
theorem dL_law_254 : decode cL_law 254 = .ok (.iadd, 1) := by decide +kernel
theorem dL_law_255 : decode cL_law 255 = .ok (.iaload, 1) := by decide +kernel
theorem dL_law_256 : decode cL_law 256 = .ok (.invokevirtual 46, 3) := by decide +kernel
theorem dL_law_259 : decode cL_law 259 = .ok (.aload_n 2, 1) := by decide +kernel
theorem dL_law_260 : decode cL_law 260 = .ok (.aload_n 0, 1) := by decide +kernel
theorem dL_law_261 : decode cL_law 261 = .ok (.iload 4, 2) := by decide +kernel
theorem dL_law_263 : decode cL_law 263 = .ok (.iconst 1, 1) := by decide +kernel
theorem dL_law_264 : decode cL_law 264 = .ok (.iadd, 1) := by decide +kernel
theorem dL_law_265 : decode cL_law 265 = .ok (.iaload, 1) := by decide +kernel
theorem dL_law_266 : decode cL_law 266 = .ok (.aload_n 0, 1) := by decide +kernel
theorem dL_law_267 : decode cL_law 267 = .ok (.iload 4, 2) := by decide +kernel
theorem dL_law_269 : decode cL_law 269 = .ok (.iconst 2, 1) := by decide +kernel
theorem dL_law_270 : decode cL_law 270 = .ok (.iadd, 1) := by decide +kernel
theorem dL_law_271 : decode cL_law 271 = .ok (.iaload, 1) := by decide +kernel
theorem dL_law_272 : decode cL_law 272 = .ok (.invokevirtual 50, 3) := by decide +kernel
theorem dL_law_275 : decode cL_law 275 = .ok (.if_icmp .eq 556, 3) := by decide +kernel
theorem dL_law_278 : decode cL_law 278 = .ok (.iconst 0, 1) := by decide +kernel
theorem dL_law_279 : decode cL_law 279 = .ok (.ireturn, 1) := by decide +kernel
theorem dL_law_280 : decode cL_law 280 = .ok (.aload_n 1, 1) := by decide +kernel
theorem dL_law_281 : decode cL_law 281 = .ok (.aload_n 0, 1) := by decide +kernel
theorem dL_law_282 : decode cL_law 282 = .ok (.iload 4, 2) := by decide +kernel
theorem dL_law_284 : decode cL_law 284 = .ok (.iconst 1, 1) := by decide +kernel
theorem dL_law_285 : decode cL_law 285 = .ok (.iadd, 1) := by decide +kernel
theorem dL_law_286 : decode cL_law 286 = .ok (.iaload, 1) := by decide +kernel
theorem dL_law_287 : decode cL_law 287 = .ok (.aload_n 0, 1) := by decide +kernel
theorem dL_law_288 : decode cL_law 288 = .ok (.iload 4, 2) := by decide +kernel
theorem dL_law_290 : decode cL_law 290 = .ok (.iconst 2, 1) := by decide +kernel
theorem dL_law_291 : decode cL_law 291 = .ok (.iadd, 1) := by decide +kernel
theorem dL_law_292 : decode cL_law 292 = .ok (.iaload, 1) := by decide +kernel
theorem dL_law_293 : decode cL_law 293 = .ok (.invokevirtual 51, 3) := by decide +kernel
theorem dL_law_296 : decode cL_law 296 = .ok (.aload_n 2, 1) := by decide +kernel
theorem dL_law_297 : decode cL_law 297 = .ok (.aload_n 0, 1) := by decide +kernel
theorem dL_law_298 : decode cL_law 298 = .ok (.iload 4, 2) := by decide +kernel
theorem dL_law_300 : decode cL_law 300 = .ok (.iconst 1, 1) := by decide +kernel
theorem dL_law_301 : decode cL_law 301 = .ok (.iadd, 1) := by decide +kernel
theorem dL_law_302 : decode cL_law 302 = .ok (.iaload, 1) := by decide +kernel
theorem dL_law_303 : decode cL_law 303 = .ok (.aload_n 0, 1) := by decide +kernel
theorem dL_law_304 : decode cL_law 304 = .ok (.iload 4, 2) := by decide +kernel
theorem dL_law_306 : decode cL_law 306 = .ok (.iconst 2, 1) := by decide +kernel
theorem dL_law_307 : decode cL_law 307 = .ok (.iadd, 1) := by decide +kernel
theorem dL_law_308 : decode cL_law 308 = .ok (.iaload, 1) := by decide +kernel
theorem dL_law_309 : decode cL_law 309 = .ok (.invokevirtual 54, 3) := by decide +kernel
theorem dL_law_312 : decode cL_law 312 = .ok (.if_icmp .eq 519, 3) := by decide +kernel
theorem dL_law_315 : decode cL_law 315 = .ok (.iconst 0, 1) := by decide +kernel
theorem dL_law_316 : decode cL_law 316 = .ok (.ireturn, 1) := by decide +kernel
theorem dL_law_317 : decode cL_law 317 = .ok (.aload_n 1, 1) := by decide +kernel
theorem dL_law_318 : decode cL_law 318 = .ok (.aload_n 0, 1) := by decide +kernel
theorem dL_law_319 : decode cL_law 319 = .ok (.iload 4, 2) := by decide +kernel
theorem dL_law_321 : decode cL_law 321 = .ok (.iconst 1, 1) := by decide +kernel
theorem dL_law_322 : decode cL_law 322 = .ok (.iadd, 1) := by decide +kernel
theorem dL_law_323 : decode cL_law 323 = .ok (.iaload, 1) := by decide +kernel
theorem dL_law_324 : decode cL_law 324 = .ok (.aload_n 0, 1) := by decide +kernel
theorem dL_law_325 : decode cL_law 325 = .ok (.iload 4, 2) := by decide +kernel
theorem dL_law_327 : decode cL_law 327 = .ok (.iconst 2, 1) := by decide +kernel
theorem dL_law_328 : decode cL_law 328 = .ok (.iadd, 1) := by decide +kernel
theorem dL_law_329 : decode cL_law 329 = .ok (.iaload, 1) := by decide +kernel
theorem dL_law_330 : decode cL_law 330 = .ok (.aload_n 0, 1) := by decide +kernel
theorem dL_law_331 : decode cL_law 331 = .ok (.iload 4, 2) := by decide +kernel
theorem dL_law_333 : decode cL_law 333 = .ok (.iconst 3, 1) := by decide +kernel
theorem dL_law_334 : decode cL_law 334 = .ok (.iadd, 1) := by decide +kernel
theorem dL_law_335 : decode cL_law 335 = .ok (.iaload, 1) := by decide +kernel
theorem dL_law_336 : decode cL_law 336 = .ok (.aload_n 3, 1) := by decide +kernel
theorem dL_law_337 : decode cL_law 337 = .ok (.invokestatic 55, 3) := by decide +kernel
theorem dL_law_340 : decode cL_law 340 = .ok (.istore 5, 2) := by decide +kernel
theorem dL_law_342 : decode cL_law 342 = .ok (.aload_n 2, 1) := by decide +kernel
theorem dL_law_343 : decode cL_law 343 = .ok (.aload_n 0, 1) := by decide +kernel
theorem dL_law_344 : decode cL_law 344 = .ok (.iload 4, 2) := by decide +kernel
theorem dL_law_346 : decode cL_law 346 = .ok (.iconst 1, 1) := by decide +kernel
theorem dL_law_347 : decode cL_law 347 = .ok (.iadd, 1) := by decide +kernel
theorem dL_law_348 : decode cL_law 348 = .ok (.iaload, 1) := by decide +kernel
theorem dL_law_349 : decode cL_law 349 = .ok (.aload_n 0, 1) := by decide +kernel
theorem dL_law_350 : decode cL_law 350 = .ok (.iload 4, 2) := by decide +kernel
theorem dL_law_352 : decode cL_law 352 = .ok (.iconst 2, 1) := by decide +kernel
theorem dL_law_353 : decode cL_law 353 = .ok (.iadd, 1) := by decide +kernel
theorem dL_law_354 : decode cL_law 354 = .ok (.iaload, 1) := by decide +kernel
theorem dL_law_355 : decode cL_law 355 = .ok (.aload_n 0, 1) := by decide +kernel
theorem dL_law_356 : decode cL_law 356 = .ok (.iload 4, 2) := by decide +kernel
theorem dL_law_358 : decode cL_law 358 = .ok (.iconst 3, 1) := by decide +kernel
theorem dL_law_359 : decode cL_law 359 = .ok (.iadd, 1) := by decide +kernel
theorem dL_law_360 : decode cL_law 360 = .ok (.iaload, 1) := by decide +kernel
theorem dL_law_361 : decode cL_law 361 = .ok (.invokevirtual 60, 3) := by decide +kernel
theorem dL_law_364 : decode cL_law 364 = .ok (.istore 6, 2) := by decide +kernel
theorem dL_law_366 : decode cL_law 366 = .ok (.aload_n 2, 1) := by decide +kernel
theorem dL_law_367 : decode cL_law 367 = .ok (.invokevirtual 61, 3) := by decide +kernel
theorem dL_law_370 : decode cL_law 370 = .ok (.iload 5, 2) := by decide +kernel
theorem dL_law_372 : decode cL_law 372 = .ok (.if_icmp .eq 5, 3) := by decide +kernel
theorem dL_law_375 : decode cL_law 375 = .ok (.iconst 0, 1) := by decide +kernel
theorem dL_law_376 : decode cL_law 376 = .ok (.ireturn, 1) := by decide +kernel
theorem dL_law_377 : decode cL_law 377 = .ok (.iload 5, 2) := by decide +kernel
theorem dL_law_379 : decode cL_law 379 = .ok (.ifCond .ne 15, 3) := by decide +kernel
theorem dL_law_382 : decode cL_law 382 = .ok (.aload_n 3, 1) := by decide +kernel
theorem dL_law_383 : decode cL_law 383 = .ok (.iconst 0, 1) := by decide +kernel
theorem dL_law_384 : decode cL_law 384 = .ok (.laload, 1) := by decide +kernel
theorem dL_law_385 : decode cL_law 385 = .ok (.iload 6, 2) := by decide +kernel
theorem dL_law_387 : decode cL_law 387 = .ok (.i2l, 1) := by decide +kernel
theorem dL_law_388 : decode cL_law 388 = .ok (.lcmp, 1) := by decide +kernel
theorem dL_law_389 : decode cL_law 389 = .ok (.ifCond .eq 5, 3) := by decide +kernel
theorem dL_law_392 : decode cL_law 392 = .ok (.iconst 0, 1) := by decide +kernel
theorem dL_law_393 : decode cL_law 393 = .ok (.ireturn, 1) := by decide +kernel
theorem dL_law_394 : decode cL_law 394 = .ok (.goto 437, 3) := by decide +kernel
theorem dL_law_397 : decode cL_law 397 = .ok (.aload_n 1, 1) := by decide +kernel
theorem dL_law_398 : decode cL_law 398 = .ok (.aload_n 0, 1) := by decide +kernel
theorem dL_law_399 : decode cL_law 399 = .ok (.iload 4, 2) := by decide +kernel
theorem dL_law_401 : decode cL_law 401 = .ok (.iconst 1, 1) := by decide +kernel
theorem dL_law_402 : decode cL_law 402 = .ok (.iadd, 1) := by decide +kernel
theorem dL_law_403 : decode cL_law 403 = .ok (.iaload, 1) := by decide +kernel
theorem dL_law_404 : decode cL_law 404 = .ok (.invokevirtual 64, 3) := by decide +kernel
theorem dL_law_407 : decode cL_law 407 = .ok (.aload_n 2, 1) := by decide +kernel
theorem dL_law_408 : decode cL_law 408 = .ok (.aload_n 0, 1) := by decide +kernel
theorem dL_law_409 : decode cL_law 409 = .ok (.iload 4, 2) := by decide +kernel
theorem dL_law_411 : decode cL_law 411 = .ok (.iconst 1, 1) := by decide +kernel
theorem dL_law_412 : decode cL_law 412 = .ok (.iadd, 1) := by decide +kernel
theorem dL_law_413 : decode cL_law 413 = .ok (.iaload, 1) := by decide +kernel
theorem dL_law_414 : decode cL_law 414 = .ok (.invokevirtual 68, 3) := by decide +kernel
theorem dL_law_417 : decode cL_law 417 = .ok (.if_icmp .eq 414, 3) := by decide +kernel
theorem dL_law_420 : decode cL_law 420 = .ok (.iconst 0, 1) := by decide +kernel
theorem dL_law_421 : decode cL_law 421 = .ok (.ireturn, 1) := by decide +kernel
theorem dL_law_422 : decode cL_law 422 = .ok (.aload_n 1, 1) := by decide +kernel
theorem dL_law_423 : decode cL_law 423 = .ok (.aload_n 0, 1) := by decide +kernel
theorem dL_law_424 : decode cL_law 424 = .ok (.iload 4, 2) := by decide +kernel
theorem dL_law_426 : decode cL_law 426 = .ok (.iconst 1, 1) := by decide +kernel
theorem dL_law_427 : decode cL_law 427 = .ok (.iadd, 1) := by decide +kernel
theorem dL_law_428 : decode cL_law 428 = .ok (.iaload, 1) := by decide +kernel
theorem dL_law_429 : decode cL_law 429 = .ok (.aload_n 0, 1) := by decide +kernel
theorem dL_law_430 : decode cL_law 430 = .ok (.iload 4, 2) := by decide +kernel
theorem dL_law_432 : decode cL_law 432 = .ok (.iconst 2, 1) := by decide +kernel
theorem dL_law_433 : decode cL_law 433 = .ok (.iadd, 1) := by decide +kernel
theorem dL_law_434 : decode cL_law 434 = .ok (.iaload, 1) := by decide +kernel
theorem dL_law_435 : decode cL_law 435 = .ok (.invokevirtual 69, 3) := by decide +kernel
theorem dL_law_438 : decode cL_law 438 = .ok (.aload_n 2, 1) := by decide +kernel
theorem dL_law_439 : decode cL_law 439 = .ok (.aload_n 0, 1) := by decide +kernel
theorem dL_law_440 : decode cL_law 440 = .ok (.iload 4, 2) := by decide +kernel
theorem dL_law_442 : decode cL_law 442 = .ok (.iconst 1, 1) := by decide +kernel
theorem dL_law_443 : decode cL_law 443 = .ok (.iadd, 1) := by decide +kernel
theorem dL_law_444 : decode cL_law 444 = .ok (.iaload, 1) := by decide +kernel
theorem dL_law_445 : decode cL_law 445 = .ok (.aload_n 0, 1) := by decide +kernel
theorem dL_law_446 : decode cL_law 446 = .ok (.iload 4, 2) := by decide +kernel
theorem dL_law_448 : decode cL_law 448 = .ok (.iconst 2, 1) := by decide +kernel
theorem dL_law_449 : decode cL_law 449 = .ok (.iadd, 1) := by decide +kernel
theorem dL_law_450 : decode cL_law 450 = .ok (.iaload, 1) := by decide +kernel
theorem dL_law_451 : decode cL_law 451 = .ok (.invokevirtual 72, 3) := by decide +kernel
theorem dL_law_454 : decode cL_law 454 = .ok (.if_icmp .eq 377, 3) := by decide +kernel
theorem dL_law_457 : decode cL_law 457 = .ok (.iconst 0, 1) := by decide +kernel
theorem dL_law_458 : decode cL_law 458 = .ok (.ireturn, 1) := by decide +kernel
theorem dL_law_459 : decode cL_law 459 = .ok (.aload_n 1, 1) := by decide +kernel
theorem dL_law_460 : decode cL_law 460 = .ok (.aload_n 0, 1) := by decide +kernel
theorem dL_law_461 : decode cL_law 461 = .ok (.iload 4, 2) := by decide +kernel
theorem dL_law_463 : decode cL_law 463 = .ok (.iconst 1, 1) := by decide +kernel
theorem dL_law_464 : decode cL_law 464 = .ok (.iadd, 1) := by decide +kernel
theorem dL_law_465 : decode cL_law 465 = .ok (.iaload, 1) := by decide +kernel
theorem dL_law_466 : decode cL_law 466 = .ok (.aload_n 0, 1) := by decide +kernel
theorem dL_law_467 : decode cL_law 467 = .ok (.iload 4, 2) := by decide +kernel
theorem dL_law_469 : decode cL_law 469 = .ok (.iconst 2, 1) := by decide +kernel
theorem dL_law_470 : decode cL_law 470 = .ok (.iadd, 1) := by decide +kernel
theorem dL_law_471 : decode cL_law 471 = .ok (.iaload, 1) := by decide +kernel
theorem dL_law_472 : decode cL_law 472 = .ok (.invokevirtual 73, 3) := by decide +kernel
theorem dL_law_475 : decode cL_law 475 = .ok (.aload_n 2, 1) := by decide +kernel
theorem dL_law_476 : decode cL_law 476 = .ok (.aload_n 0, 1) := by decide +kernel
theorem dL_law_477 : decode cL_law 477 = .ok (.iload 4, 2) := by decide +kernel
theorem dL_law_479 : decode cL_law 479 = .ok (.iconst 1, 1) := by decide +kernel
theorem dL_law_480 : decode cL_law 480 = .ok (.iadd, 1) := by decide +kernel
theorem dL_law_481 : decode cL_law 481 = .ok (.iaload, 1) := by decide +kernel
theorem dL_law_482 : decode cL_law 482 = .ok (.aload_n 0, 1) := by decide +kernel
theorem dL_law_483 : decode cL_law 483 = .ok (.iload 4, 2) := by decide +kernel
theorem dL_law_485 : decode cL_law 485 = .ok (.iconst 2, 1) := by decide +kernel
theorem dL_law_486 : decode cL_law 486 = .ok (.iadd, 1) := by decide +kernel
theorem dL_law_487 : decode cL_law 487 = .ok (.iaload, 1) := by decide +kernel
theorem dL_law_488 : decode cL_law 488 = .ok (.invokevirtual 76, 3) := by decide +kernel
theorem dL_law_491 : decode cL_law 491 = .ok (.if_icmp .eq 340, 3) := by decide +kernel
theorem dL_law_494 : decode cL_law 494 = .ok (.iconst 0, 1) := by decide +kernel
theorem dL_law_495 : decode cL_law 495 = .ok (.ireturn, 1) := by decide +kernel
theorem dL_law_496 : decode cL_law 496 = .ok (.aload_n 1, 1) := by decide +kernel
theorem dL_law_497 : decode cL_law 497 = .ok (.aload_n 0, 1) := by decide +kernel
theorem dL_law_498 : decode cL_law 498 = .ok (.iload 4, 2) := by decide +kernel
theorem dL_law_500 : decode cL_law 500 = .ok (.iconst 1, 1) := by decide +kernel
theorem dL_law_501 : decode cL_law 501 = .ok (.iadd, 1) := by decide +kernel
theorem dL_law_502 : decode cL_law 502 = .ok (.iaload, 1) := by decide +kernel
theorem dL_law_503 : decode cL_law 503 = .ok (.aload_n 0, 1) := by decide +kernel
theorem dL_law_504 : decode cL_law 504 = .ok (.iload 4, 2) := by decide +kernel
theorem dL_law_506 : decode cL_law 506 = .ok (.iconst 2, 1) := by decide +kernel
theorem dL_law_507 : decode cL_law 507 = .ok (.iadd, 1) := by decide +kernel
theorem dL_law_508 : decode cL_law 508 = .ok (.iaload, 1) := by decide +kernel
theorem dL_law_509 : decode cL_law 509 = .ok (.aload_n 3, 1) := by decide +kernel
theorem dL_law_510 : decode cL_law 510 = .ok (.invokestatic 77, 3) := by decide +kernel
theorem dL_law_513 : decode cL_law 513 = .ok (.istore 5, 2) := by decide +kernel
theorem dL_law_515 : decode cL_law 515 = .ok (.aload_n 2, 1) := by decide +kernel
theorem dL_law_516 : decode cL_law 516 = .ok (.aload_n 0, 1) := by decide +kernel
theorem dL_law_517 : decode cL_law 517 = .ok (.iload 4, 2) := by decide +kernel
theorem dL_law_519 : decode cL_law 519 = .ok (.iconst 1, 1) := by decide +kernel
theorem dL_law_520 : decode cL_law 520 = .ok (.iadd, 1) := by decide +kernel
theorem dL_law_521 : decode cL_law 521 = .ok (.iaload, 1) := by decide +kernel
theorem dL_law_522 : decode cL_law 522 = .ok (.aload_n 0, 1) := by decide +kernel
theorem dL_law_523 : decode cL_law 523 = .ok (.iload 4, 2) := by decide +kernel
theorem dL_law_525 : decode cL_law 525 = .ok (.iconst 2, 1) := by decide +kernel
theorem dL_law_526 : decode cL_law 526 = .ok (.iadd, 1) := by decide +kernel
theorem dL_law_527 : decode cL_law 527 = .ok (.iaload, 1) := by decide +kernel
theorem dL_law_528 : decode cL_law 528 = .ok (.invokevirtual 80, 3) := by decide +kernel
theorem dL_law_531 : decode cL_law 531 = .ok (.istore 6, 2) := by decide +kernel
theorem dL_law_533 : decode cL_law 533 = .ok (.aload_n 2, 1) := by decide +kernel
theorem dL_law_534 : decode cL_law 534 = .ok (.invokevirtual 61, 3) := by decide +kernel
theorem dL_law_537 : decode cL_law 537 = .ok (.iload 5, 2) := by decide +kernel
theorem dL_law_539 : decode cL_law 539 = .ok (.if_icmp .eq 5, 3) := by decide +kernel
theorem dL_law_542 : decode cL_law 542 = .ok (.iconst 0, 1) := by decide +kernel
theorem dL_law_543 : decode cL_law 543 = .ok (.ireturn, 1) := by decide +kernel
theorem dL_law_544 : decode cL_law 544 = .ok (.iload 5, 2) := by decide +kernel
theorem dL_law_546 : decode cL_law 546 = .ok (.ifCond .ne 15, 3) := by decide +kernel
theorem dL_law_549 : decode cL_law 549 = .ok (.aload_n 3, 1) := by decide +kernel
theorem dL_law_550 : decode cL_law 550 = .ok (.iconst 0, 1) := by decide +kernel
theorem dL_law_551 : decode cL_law 551 = .ok (.laload, 1) := by decide +kernel
theorem dL_law_552 : decode cL_law 552 = .ok (.iload 6, 2) := by decide +kernel
theorem dL_law_554 : decode cL_law 554 = .ok (.i2l, 1) := by decide +kernel
theorem dL_law_555 : decode cL_law 555 = .ok (.lcmp, 1) := by decide +kernel
theorem dL_law_556 : decode cL_law 556 = .ok (.ifCond .eq 5, 3) := by decide +kernel
theorem dL_law_559 : decode cL_law 559 = .ok (.iconst 0, 1) := by decide +kernel
theorem dL_law_560 : decode cL_law 560 = .ok (.ireturn, 1) := by decide +kernel
theorem dL_law_561 : decode cL_law 561 = .ok (.goto 270, 3) := by decide +kernel
theorem dL_law_564 : decode cL_law 564 = .ok (.aload_n 1, 1) := by decide +kernel
theorem dL_law_565 : decode cL_law 565 = .ok (.aload_n 0, 1) := by decide +kernel
theorem dL_law_566 : decode cL_law 566 = .ok (.iload 4, 2) := by decide +kernel
theorem dL_law_568 : decode cL_law 568 = .ok (.iconst 1, 1) := by decide +kernel
theorem dL_law_569 : decode cL_law 569 = .ok (.iadd, 1) := by decide +kernel
theorem dL_law_570 : decode cL_law 570 = .ok (.iaload, 1) := by decide +kernel
theorem dL_law_571 : decode cL_law 571 = .ok (.aload_n 0, 1) := by decide +kernel
theorem dL_law_572 : decode cL_law 572 = .ok (.iload 4, 2) := by decide +kernel
theorem dL_law_574 : decode cL_law 574 = .ok (.iconst 2, 1) := by decide +kernel
theorem dL_law_575 : decode cL_law 575 = .ok (.iadd, 1) := by decide +kernel
theorem dL_law_576 : decode cL_law 576 = .ok (.iaload, 1) := by decide +kernel
theorem dL_law_577 : decode cL_law 577 = .ok (.invokevirtual 81, 3) := by decide +kernel
theorem dL_law_580 : decode cL_law 580 = .ok (.aload_n 2, 1) := by decide +kernel
theorem dL_law_581 : decode cL_law 581 = .ok (.aload_n 0, 1) := by decide +kernel
theorem dL_law_582 : decode cL_law 582 = .ok (.iload 4, 2) := by decide +kernel
theorem dL_law_584 : decode cL_law 584 = .ok (.iconst 1, 1) := by decide +kernel
theorem dL_law_585 : decode cL_law 585 = .ok (.iadd, 1) := by decide +kernel
theorem dL_law_586 : decode cL_law 586 = .ok (.iaload, 1) := by decide +kernel
theorem dL_law_587 : decode cL_law 587 = .ok (.aload_n 0, 1) := by decide +kernel
theorem dL_law_588 : decode cL_law 588 = .ok (.iload 4, 2) := by decide +kernel
theorem dL_law_590 : decode cL_law 590 = .ok (.iconst 2, 1) := by decide +kernel
theorem dL_law_591 : decode cL_law 591 = .ok (.iadd, 1) := by decide +kernel
theorem dL_law_592 : decode cL_law 592 = .ok (.iaload, 1) := by decide +kernel
theorem dL_law_593 : decode cL_law 593 = .ok (.invokevirtual 85, 3) := by decide +kernel
theorem dL_law_596 : decode cL_law 596 = .ok (.if_icmp .eq 235, 3) := by decide +kernel
theorem dL_law_599 : decode cL_law 599 = .ok (.iconst 0, 1) := by decide +kernel
theorem dL_law_600 : decode cL_law 600 = .ok (.ireturn, 1) := by decide +kernel
theorem dL_law_601 : decode cL_law 601 = .ok (.aload_n 1, 1) := by decide +kernel
theorem dL_law_602 : decode cL_law 602 = .ok (.aload_n 0, 1) := by decide +kernel
theorem dL_law_603 : decode cL_law 603 = .ok (.iload 4, 2) := by decide +kernel
theorem dL_law_605 : decode cL_law 605 = .ok (.iconst 1, 1) := by decide +kernel
theorem dL_law_606 : decode cL_law 606 = .ok (.iadd, 1) := by decide +kernel
theorem dL_law_607 : decode cL_law 607 = .ok (.iaload, 1) := by decide +kernel
theorem dL_law_608 : decode cL_law 608 = .ok (.aload_n 0, 1) := by decide +kernel
theorem dL_law_609 : decode cL_law 609 = .ok (.iload 4, 2) := by decide +kernel
theorem dL_law_611 : decode cL_law 611 = .ok (.iconst 2, 1) := by decide +kernel
theorem dL_law_612 : decode cL_law 612 = .ok (.iadd, 1) := by decide +kernel
theorem dL_law_613 : decode cL_law 613 = .ok (.iaload, 1) := by decide +kernel
theorem dL_law_614 : decode cL_law 614 = .ok (.invokevirtual 86, 3) := by decide +kernel
theorem dL_law_617 : decode cL_law 617 = .ok (.aload_n 2, 1) := by decide +kernel
theorem dL_law_618 : decode cL_law 618 = .ok (.aload_n 0, 1) := by decide +kernel
theorem dL_law_619 : decode cL_law 619 = .ok (.iload 4, 2) := by decide +kernel
theorem dL_law_621 : decode cL_law 621 = .ok (.iconst 1, 1) := by decide +kernel
theorem dL_law_622 : decode cL_law 622 = .ok (.iadd, 1) := by decide +kernel
theorem dL_law_623 : decode cL_law 623 = .ok (.iaload, 1) := by decide +kernel
theorem dL_law_624 : decode cL_law 624 = .ok (.aload_n 0, 1) := by decide +kernel
theorem dL_law_625 : decode cL_law 625 = .ok (.iload 4, 2) := by decide +kernel
theorem dL_law_627 : decode cL_law 627 = .ok (.iconst 2, 1) := by decide +kernel
theorem dL_law_628 : decode cL_law 628 = .ok (.iadd, 1) := by decide +kernel
theorem dL_law_629 : decode cL_law 629 = .ok (.iaload, 1) := by decide +kernel
theorem dL_law_630 : decode cL_law 630 = .ok (.invokevirtual 89, 3) := by decide +kernel
theorem dL_law_633 : decode cL_law 633 = .ok (.if_icmp .eq 198, 3) := by decide +kernel
theorem dL_law_636 : decode cL_law 636 = .ok (.iconst 0, 1) := by decide +kernel
theorem dL_law_637 : decode cL_law 637 = .ok (.ireturn, 1) := by decide +kernel
theorem dL_law_638 : decode cL_law 638 = .ok (.aload_n 1, 1) := by decide +kernel
theorem dL_law_639 : decode cL_law 639 = .ok (.aload_n 0, 1) := by decide +kernel
theorem dL_law_640 : decode cL_law 640 = .ok (.iload 4, 2) := by decide +kernel
theorem dL_law_642 : decode cL_law 642 = .ok (.iconst 1, 1) := by decide +kernel
theorem dL_law_643 : decode cL_law 643 = .ok (.iadd, 1) := by decide +kernel
theorem dL_law_644 : decode cL_law 644 = .ok (.iaload, 1) := by decide +kernel
theorem dL_law_645 : decode cL_law 645 = .ok (.aload_n 0, 1) := by decide +kernel
theorem dL_law_646 : decode cL_law 646 = .ok (.iload 4, 2) := by decide +kernel
theorem dL_law_648 : decode cL_law 648 = .ok (.iconst 2, 1) := by decide +kernel
theorem dL_law_649 : decode cL_law 649 = .ok (.iadd, 1) := by decide +kernel
theorem dL_law_650 : decode cL_law 650 = .ok (.iaload, 1) := by decide +kernel
theorem dL_law_651 : decode cL_law 651 = .ok (.i2l, 1) := by decide +kernel
theorem dL_law_652 : decode cL_law 652 = .ok (.bipush 32, 2) := by decide +kernel
theorem dL_law_654 : decode cL_law 654 = .ok (.lshl, 1) := by decide +kernel
theorem dL_law_655 : decode cL_law 655 = .ok (.aload_n 0, 1) := by decide +kernel
theorem dL_law_656 : decode cL_law 656 = .ok (.iload 4, 2) := by decide +kernel
theorem dL_law_658 : decode cL_law 658 = .ok (.iconst 3, 1) := by decide +kernel
theorem dL_law_659 : decode cL_law 659 = .ok (.iadd, 1) := by decide +kernel
theorem dL_law_660 : decode cL_law 660 = .ok (.iaload, 1) := by decide +kernel
theorem dL_law_661 : decode cL_law 661 = .ok (.i2l, 1) := by decide +kernel
theorem dL_law_662 : decode cL_law 662 = .ok (.ldc2_w 90, 3) := by decide +kernel
theorem dL_law_665 : decode cL_law 665 = .ok (.land, 1) := by decide +kernel
theorem dL_law_666 : decode cL_law 666 = .ok (.lor, 1) := by decide +kernel
theorem dL_law_667 : decode cL_law 667 = .ok (.aload_n 0, 1) := by decide +kernel
theorem dL_law_668 : decode cL_law 668 = .ok (.iload 4, 2) := by decide +kernel
theorem dL_law_670 : decode cL_law 670 = .ok (.iconst 4, 1) := by decide +kernel
theorem dL_law_671 : decode cL_law 671 = .ok (.iadd, 1) := by decide +kernel
theorem dL_law_672 : decode cL_law 672 = .ok (.iaload, 1) := by decide +kernel
theorem dL_law_673 : decode cL_law 673 = .ok (.i2l, 1) := by decide +kernel
theorem dL_law_674 : decode cL_law 674 = .ok (.bipush 32, 2) := by decide +kernel
theorem dL_law_676 : decode cL_law 676 = .ok (.lshl, 1) := by decide +kernel
theorem dL_law_677 : decode cL_law 677 = .ok (.aload_n 0, 1) := by decide +kernel
theorem dL_law_678 : decode cL_law 678 = .ok (.iload 4, 2) := by decide +kernel
theorem dL_law_680 : decode cL_law 680 = .ok (.iconst 5, 1) := by decide +kernel
theorem dL_law_681 : decode cL_law 681 = .ok (.iadd, 1) := by decide +kernel
theorem dL_law_682 : decode cL_law 682 = .ok (.iaload, 1) := by decide +kernel
theorem dL_law_683 : decode cL_law 683 = .ok (.i2l, 1) := by decide +kernel
theorem dL_law_684 : decode cL_law 684 = .ok (.ldc2_w 90, 3) := by decide +kernel
theorem dL_law_687 : decode cL_law 687 = .ok (.land, 1) := by decide +kernel
theorem dL_law_688 : decode cL_law 688 = .ok (.lor, 1) := by decide +kernel
theorem dL_law_689 : decode cL_law 689 = .ok (.aload_n 3, 1) := by decide +kernel
theorem dL_law_690 : decode cL_law 690 = .ok (.invokestatic 92, 3) := by decide +kernel
theorem dL_law_693 : decode cL_law 693 = .ok (.istore 5, 2) := by decide +kernel
theorem dL_law_695 : decode cL_law 695 = .ok (.aload_n 2, 1) := by decide +kernel
theorem dL_law_696 : decode cL_law 696 = .ok (.aload_n 0, 1) := by decide +kernel
theorem dL_law_697 : decode cL_law 697 = .ok (.iload 4, 2) := by decide +kernel
theorem dL_law_699 : decode cL_law 699 = .ok (.iconst 1, 1) := by decide +kernel
theorem dL_law_700 : decode cL_law 700 = .ok (.iadd, 1) := by decide +kernel
theorem dL_law_701 : decode cL_law 701 = .ok (.iaload, 1) := by decide +kernel
theorem dL_law_702 : decode cL_law 702 = .ok (.aload_n 0, 1) := by decide +kernel
theorem dL_law_703 : decode cL_law 703 = .ok (.iload 4, 2) := by decide +kernel
theorem dL_law_705 : decode cL_law 705 = .ok (.iconst 2, 1) := by decide +kernel
theorem dL_law_706 : decode cL_law 706 = .ok (.iadd, 1) := by decide +kernel
theorem dL_law_707 : decode cL_law 707 = .ok (.iaload, 1) := by decide +kernel
theorem dL_law_708 : decode cL_law 708 = .ok (.i2l, 1) := by decide +kernel
theorem dL_law_709 : decode cL_law 709 = .ok (.bipush 32, 2) := by decide +kernel
theorem dL_law_711 : decode cL_law 711 = .ok (.lshl, 1) := by decide +kernel
theorem dL_law_712 : decode cL_law 712 = .ok (.aload_n 0, 1) := by decide +kernel
theorem dL_law_713 : decode cL_law 713 = .ok (.iload 4, 2) := by decide +kernel
theorem dL_law_715 : decode cL_law 715 = .ok (.iconst 3, 1) := by decide +kernel
theorem dL_law_716 : decode cL_law 716 = .ok (.iadd, 1) := by decide +kernel
theorem dL_law_717 : decode cL_law 717 = .ok (.iaload, 1) := by decide +kernel
theorem dL_law_718 : decode cL_law 718 = .ok (.i2l, 1) := by decide +kernel
theorem dL_law_719 : decode cL_law 719 = .ok (.ldc2_w 90, 3) := by decide +kernel
theorem dL_law_722 : decode cL_law 722 = .ok (.land, 1) := by decide +kernel
theorem dL_law_723 : decode cL_law 723 = .ok (.lor, 1) := by decide +kernel
theorem dL_law_724 : decode cL_law 724 = .ok (.aload_n 0, 1) := by decide +kernel
theorem dL_law_725 : decode cL_law 725 = .ok (.iload 4, 2) := by decide +kernel
theorem dL_law_727 : decode cL_law 727 = .ok (.iconst 4, 1) := by decide +kernel
theorem dL_law_728 : decode cL_law 728 = .ok (.iadd, 1) := by decide +kernel
theorem dL_law_729 : decode cL_law 729 = .ok (.iaload, 1) := by decide +kernel
