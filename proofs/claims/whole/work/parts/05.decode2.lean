theorem dX7_init_20 : decode cX7_init 20 = .ok (.aload_n 0, 1) := by decide +kernel
theorem dX7_init_21 : decode cX7_init 21 = .ok (.getfield 10, 3) := by decide +kernel
theorem dX7_init_24 : decode cX7_init 24 = .ok (.invokespecial 18, 3) := by decide +kernel
theorem dX7_init_27 : decode cX7_init 27 = .ok (.putfield 21, 3) := by decide +kernel
theorem dX7_init_30 : decode cX7_init 30 = .ok (.aload_n 0, 1) := by decide +kernel
theorem dX7_init_31 : decode cX7_init 31 = .ok (.new 25, 3) := by decide +kernel
theorem dX7_init_34 : decode cX7_init 34 = .ok (.dup, 1) := by decide +kernel
theorem dX7_init_35 : decode cX7_init 35 = .ok (.invokespecial 27, 3) := by decide +kernel
theorem dX7_init_38 : decode cX7_init 38 = .ok (.putfield 28, 3) := by decide +kernel
theorem dX7_init_41 : decode cX7_init 41 = .ok (.aload_n 0, 1) := by decide +kernel
theorem dX7_init_42 : decode cX7_init 42 = .ok (.bipush 8, 2) := by decide +kernel
theorem dX7_init_44 : decode cX7_init 44 = .ok (.anewarray 32, 3) := by decide +kernel
theorem dX7_init_47 : decode cX7_init 47 = .ok (.putfield 34, 3) := by decide +kernel
theorem dX7_init_50 : decode cX7_init 50 = .ok (.return_, 1) := by decide +kernel
theorem dX7_program_0 : decode cX7_program 0 = .ok (.iload_n 1, 1) := by decide +kernel
theorem dX7_program_1 : decode cX7_program 1 = .ok (.iconst 1, 1) := by decide +kernel
theorem dX7_program_2 : decode cX7_program 2 = .ok (.if_icmp .lt 9, 3) := by decide +kernel
theorem dX7_program_5 : decode cX7_program 5 = .ok (.iload_n 1, 1) := by decide +kernel
theorem dX7_program_6 : decode cX7_program 6 = .ok (.bipush 100, 2) := by decide +kernel
theorem dX7_program_8 : decode cX7_program 8 = .ok (.if_icmp .le 6, 3) := by decide +kernel
theorem dX7_program_11 : decode cX7_program 11 = .ok (.bipush (-4), 2) := by decide +kernel
theorem dX7_program_13 : decode cX7_program 13 = .ok (.ireturn, 1) := by decide +kernel
theorem dX7_program_14 : decode cX7_program 14 = .ok (.aload_n 0, 1) := by decide +kernel
theorem dX7_program_15 : decode cX7_program 15 = .ok (.getfield 10, 3) := by decide +kernel
theorem dX7_program_18 : decode cX7_program 18 = .ok (.iload_n 1, 1) := by decide +kernel
theorem dX7_program_19 : decode cX7_program 19 = .ok (.iload_n 2, 1) := by decide +kernel
theorem dX7_program_20 : decode cX7_program 20 = .ok (.invokevirtual 38, 3) := by decide +kernel
theorem dX7_program_23 : decode cX7_program 23 = .ok (.ireturn, 1) := by decide +kernel
theorem dX7_code_0 : decode cX7_code 0 = .ok (.aload_n 0, 1) := by decide +kernel
theorem dX7_code_1 : decode cX7_code 1 = .ok (.getfield 10, 3) := by decide +kernel
theorem dX7_code_4 : decode cX7_code 4 = .ok (.iload_n 1, 1) := by decide +kernel
theorem dX7_code_5 : decode cX7_code 5 = .ok (.invokevirtual 42, 3) := by decide +kernel
theorem dX7_code_8 : decode cX7_code 8 = .ok (.astore 5, 2) := by decide +kernel
theorem dX7_code_10 : decode cX7_code 10 = .ok (.aload 5, 2) := by decide +kernel
theorem dX7_code_12 : decode cX7_code 12 = .ok (.ifnonnull 6, 3) := by decide +kernel
theorem dX7_code_15 : decode cX7_code 15 = .ok (.bipush (-2), 2) := by decide +kernel
theorem dX7_code_17 : decode cX7_code 17 = .ok (.ireturn, 1) := by decide +kernel
theorem dX7_code_18 : decode cX7_code 18 = .ok (.aload 5, 2) := by decide +kernel
theorem dX7_code_20 : decode cX7_code 20 = .ok (.iload_n 2, 1) := by decide +kernel
theorem dX7_code_21 : decode cX7_code 21 = .ok (.iload_n 3, 1) := by decide +kernel
theorem dX7_code_22 : decode cX7_code 22 = .ok (.iload 4, 2) := by decide +kernel
theorem dX7_code_24 : decode cX7_code 24 = .ok (.invokevirtual 46, 3) := by decide +kernel
theorem dX7_code_27 : decode cX7_code 27 = .ok (.ifCond .ne 6, 3) := by decide +kernel
theorem dX7_code_30 : decode cX7_code 30 = .ok (.bipush (-4), 2) := by decide +kernel
theorem dX7_code_32 : decode cX7_code 32 = .ok (.ireturn, 1) := by decide +kernel
theorem dX7_code_33 : decode cX7_code 33 = .ok (.aload 5, 2) := by decide +kernel
theorem dX7_code_35 : decode cX7_code 35 = .ok (.iload_n 2, 1) := by decide +kernel
theorem dX7_code_36 : decode cX7_code 36 = .ok (.iload_n 3, 1) := by decide +kernel
theorem dX7_code_37 : decode cX7_code 37 = .ok (.iload 4, 2) := by decide +kernel
theorem dX7_code_39 : decode cX7_code 39 = .ok (.invokevirtual 52, 3) := by decide +kernel
theorem dX7_code_42 : decode cX7_code 42 = .ok (.ireturn, 1) := by decide +kernel
theorem dX7_unit_0 : decode cX7_unit 0 = .ok (.aload_n 0, 1) := by decide +kernel
theorem dX7_unit_1 : decode cX7_unit 1 = .ok (.getfield 56, 3) := by decide +kernel
theorem dX7_unit_4 : decode cX7_unit 4 = .ok (.aload_n 0, 1) := by decide +kernel
theorem dX7_unit_5 : decode cX7_unit 5 = .ok (.getfield 34, 3) := by decide +kernel
theorem dX7_unit_8 : decode cX7_unit 8 = .ok (.arraylength, 1) := by decide +kernel
theorem dX7_unit_9 : decode cX7_unit 9 = .ok (.if_icmp .lt 5, 3) := by decide +kernel
theorem dX7_unit_12 : decode cX7_unit 12 = .ok (.iconst (-1), 1) := by decide +kernel
theorem dX7_unit_13 : decode cX7_unit 13 = .ok (.ireturn, 1) := by decide +kernel
theorem dX7_unit_14 : decode cX7_unit 14 = .ok (.aload_n 0, 1) := by decide +kernel
theorem dX7_unit_15 : decode cX7_unit 15 = .ok (.getfield 34, 3) := by decide +kernel
theorem dX7_unit_18 : decode cX7_unit 18 = .ok (.aload_n 0, 1) := by decide +kernel
theorem dX7_unit_19 : decode cX7_unit 19 = .ok (.getfield 56, 3) := by decide +kernel
theorem dX7_unit_22 : decode cX7_unit 22 = .ok (.new 32, 3) := by decide +kernel
theorem dX7_unit_25 : decode cX7_unit 25 = .ok (.dup, 1) := by decide +kernel
theorem dX7_unit_26 : decode cX7_unit 26 = .ok (.invokespecial 60, 3) := by decide +kernel
theorem dX7_unit_29 : decode cX7_unit 29 = .ok (.aastore, 1) := by decide +kernel
theorem dX7_unit_30 : decode cX7_unit 30 = .ok (.aload_n 0, 1) := by decide +kernel
theorem dX7_unit_31 : decode cX7_unit 31 = .ok (.dup, 1) := by decide +kernel
theorem dX7_unit_32 : decode cX7_unit 32 = .ok (.getfield 56, 3) := by decide +kernel
theorem dX7_unit_35 : decode cX7_unit 35 = .ok (.iconst 1, 1) := by decide +kernel
theorem dX7_unit_36 : decode cX7_unit 36 = .ok (.iadd, 1) := by decide +kernel
theorem dX7_unit_37 : decode cX7_unit 37 = .ok (.putfield 56, 3) := by decide +kernel
theorem dX7_unit_40 : decode cX7_unit 40 = .ok (.aload_n 0, 1) := by decide +kernel
theorem dX7_unit_41 : decode cX7_unit 41 = .ok (.getfield 56, 3) := by decide +kernel
theorem dX7_unit_44 : decode cX7_unit 44 = .ok (.ireturn, 1) := by decide +kernel
theorem dX7_make_0 : decode cX7_make 0 = .ok (.aload_n 0, 1) := by decide +kernel
theorem dX7_make_1 : decode cX7_make 1 = .ok (.iload_n 1, 1) := by decide +kernel
theorem dX7_make_2 : decode cX7_make 2 = .ok (.invokevirtual 61, 3) := by decide +kernel
theorem dX7_make_5 : decode cX7_make 5 = .ok (.astore_n 3, 1) := by decide +kernel
theorem dX7_make_6 : decode cX7_make 6 = .ok (.aload_n 0, 1) := by decide +kernel
theorem dX7_make_7 : decode cX7_make 7 = .ok (.getfield 10, 3) := by decide +kernel
theorem dX7_make_10 : decode cX7_make 10 = .ok (.iload_n 2, 1) := by decide +kernel
theorem dX7_make_11 : decode cX7_make 11 = .ok (.invokevirtual 42, 3) := by decide +kernel
theorem dX7_make_14 : decode cX7_make 14 = .ok (.astore 4, 2) := by decide +kernel
theorem dX7_make_16 : decode cX7_make 16 = .ok (.aload_n 3, 1) := by decide +kernel
theorem dX7_make_17 : decode cX7_make 17 = .ok (.ifnull 8, 3) := by decide +kernel
theorem dX7_make_20 : decode cX7_make 20 = .ok (.aload 4, 2) := by decide +kernel
theorem dX7_make_22 : decode cX7_make 22 = .ok (.ifnonnull 6, 3) := by decide +kernel
theorem dX7_make_25 : decode cX7_make 25 = .ok (.bipush (-2), 2) := by decide +kernel
theorem dX7_make_27 : decode cX7_make 27 = .ok (.ireturn, 1) := by decide +kernel
theorem dX7_make_28 : decode cX7_make 28 = .ok (.aload_n 3, 1) := by decide +kernel
theorem dX7_make_29 : decode cX7_make 29 = .ok (.getfield 65, 3) := by decide +kernel
theorem dX7_make_32 : decode cX7_make 32 = .ok (.ifCond .eq 6, 3) := by decide +kernel
theorem dX7_make_35 : decode cX7_make 35 = .ok (.bipush (-5), 2) := by decide +kernel
theorem dX7_make_37 : decode cX7_make 37 = .ok (.ireturn, 1) := by decide +kernel
theorem dX7_make_38 : decode cX7_make 38 = .ok (.aload_n 0, 1) := by decide +kernel
theorem dX7_make_39 : decode cX7_make 39 = .ok (.getfield 10, 3) := by decide +kernel
theorem dX7_make_42 : decode cX7_make 42 = .ok (.aload_n 3, 1) := by decide +kernel
theorem dX7_make_43 : decode cX7_make 43 = .ok (.aload 4, 2) := by decide +kernel
theorem dX7_make_45 : decode cX7_make 45 = .ok (.invokevirtual 69, 3) := by decide +kernel
theorem dX7_make_48 : decode cX7_make 48 = .ok (.astore 5, 2) := by decide +kernel
theorem dX7_make_50 : decode cX7_make 50 = .ok (.aload 5, 2) := by decide +kernel
theorem dX7_make_52 : decode cX7_make 52 = .ok (.ifnonnull 7, 3) := by decide +kernel
theorem dX7_make_55 : decode cX7_make 55 = .ok (.iconst (-1), 1) := by decide +kernel
theorem dX7_make_56 : decode cX7_make 56 = .ok (.goto 8, 3) := by decide +kernel
theorem dX7_make_59 : decode cX7_make 59 = .ok (.aload 5, 2) := by decide +kernel
theorem dX7_make_61 : decode cX7_make 61 = .ok (.getfield 73, 3) := by decide +kernel
theorem dX7_make_64 : decode cX7_make 64 = .ok (.ireturn, 1) := by decide +kernel
theorem dX7_run_0 : decode cX7_run 0 = .ok (.aload_n 0, 1) := by decide +kernel
theorem dX7_run_1 : decode cX7_run 1 = .ok (.iload_n 1, 1) := by decide +kernel
theorem dX7_run_2 : decode cX7_run 2 = .ok (.invokevirtual 61, 3) := by decide +kernel
theorem dX7_run_5 : decode cX7_run 5 = .ok (.astore_n 3, 1) := by decide +kernel
theorem dX7_run_6 : decode cX7_run 6 = .ok (.aload_n 0, 1) := by decide +kernel
theorem dX7_run_7 : decode cX7_run 7 = .ok (.getfield 10, 3) := by decide +kernel
theorem dX7_run_10 : decode cX7_run 10 = .ok (.iload_n 2, 1) := by decide +kernel
theorem dX7_run_11 : decode cX7_run 11 = .ok (.invokevirtual 42, 3) := by decide +kernel
theorem dX7_run_14 : decode cX7_run 14 = .ok (.astore 4, 2) := by decide +kernel
theorem dX7_run_16 : decode cX7_run 16 = .ok (.aload_n 3, 1) := by decide +kernel
theorem dX7_run_17 : decode cX7_run 17 = .ok (.ifnull 8, 3) := by decide +kernel
theorem dX7_run_20 : decode cX7_run 20 = .ok (.aload 4, 2) := by decide +kernel
theorem dX7_run_22 : decode cX7_run 22 = .ok (.ifnonnull 6, 3) := by decide +kernel
theorem dX7_run_25 : decode cX7_run 25 = .ok (.bipush (-2), 2) := by decide +kernel
theorem dX7_run_27 : decode cX7_run 27 = .ok (.ireturn, 1) := by decide +kernel
theorem dX7_run_28 : decode cX7_run 28 = .ok (.aload_n 3, 1) := by decide +kernel
theorem dX7_run_29 : decode cX7_run 29 = .ok (.aload 4, 2) := by decide +kernel
theorem dX7_run_31 : decode cX7_run 31 = .ok (.invokevirtual 78, 3) := by decide +kernel
theorem dX7_run_34 : decode cX7_run 34 = .ok (.astore 5, 2) := by decide +kernel
theorem dX7_run_36 : decode cX7_run 36 = .ok (.aload_n 3, 1) := by decide +kernel
theorem dX7_run_37 : decode cX7_run 37 = .ok (.getfield 65, 3) := by decide +kernel
theorem dX7_run_40 : decode cX7_run 40 = .ok (.ifCond .ne 8, 3) := by decide +kernel
theorem dX7_run_43 : decode cX7_run 43 = .ok (.aload 5, 2) := by decide +kernel
theorem dX7_run_45 : decode cX7_run 45 = .ok (.ifnonnull 6, 3) := by decide +kernel
theorem dX7_run_48 : decode cX7_run 48 = .ok (.bipush (-5), 2) := by decide +kernel
theorem dX7_run_50 : decode cX7_run 50 = .ok (.ireturn, 1) := by decide +kernel
theorem dX7_run_51 : decode cX7_run 51 = .ok (.aload_n 3, 1) := by decide +kernel
theorem dX7_run_52 : decode cX7_run 52 = .ok (.invokevirtual 82, 3) := by decide +kernel
theorem dX7_run_55 : decode cX7_run 55 = .ok (.aload_n 0, 1) := by decide +kernel
theorem dX7_run_56 : decode cX7_run 56 = .ok (.getfield 21, 3) := by decide +kernel
theorem dX7_run_59 : decode cX7_run 59 = .ok (.aload_n 3, 1) := by decide +kernel
theorem dX7_run_60 : decode cX7_run 60 = .ok (.aload 5, 2) := by decide +kernel
theorem dX7_run_62 : decode cX7_run 62 = .ok (.iconst 0, 1) := by decide +kernel
theorem dX7_run_63 : decode cX7_run 63 = .ok (.invokevirtual 85, 3) := by decide +kernel
theorem dX7_run_66 : decode cX7_run 66 = .ok (.pop, 1) := by decide +kernel
theorem dX7_run_67 : decode cX7_run 67 = .ok (.aload_n 3, 1) := by decide +kernel
theorem dX7_run_68 : decode cX7_run 68 = .ok (.getfield 89, 3) := by decide +kernel
theorem dX7_run_71 : decode cX7_run 71 = .ok (.ifCond .ne 7, 3) := by decide +kernel
theorem dX7_run_74 : decode cX7_run 74 = .ok (.iconst 1, 1) := by decide +kernel
theorem dX7_run_75 : decode cX7_run 75 = .ok (.goto 4, 3) := by decide +kernel
theorem dX7_run_78 : decode cX7_run 78 = .ok (.iconst 2, 1) := by decide +kernel
theorem dX7_run_79 : decode cX7_run 79 = .ok (.ireturn, 1) := by decide +kernel
theorem dX7_at_0 : decode cX7_at 0 = .ok (.aload_n 0, 1) := by decide +kernel
theorem dX7_at_1 : decode cX7_at 1 = .ok (.iload_n 1, 1) := by decide +kernel
theorem dX7_at_2 : decode cX7_at 2 = .ok (.invokevirtual 61, 3) := by decide +kernel
theorem dX7_at_5 : decode cX7_at 5 = .ok (.astore 4, 2) := by decide +kernel
theorem dX7_at_7 : decode cX7_at 7 = .ok (.aload_n 0, 1) := by decide +kernel
theorem dX7_at_8 : decode cX7_at 8 = .ok (.getfield 10, 3) := by decide +kernel
theorem dX7_at_11 : decode cX7_at 11 = .ok (.iload_n 2, 1) := by decide +kernel
theorem dX7_at_12 : decode cX7_at 12 = .ok (.invokevirtual 42, 3) := by decide +kernel
theorem dX7_at_15 : decode cX7_at 15 = .ok (.astore 5, 2) := by decide +kernel
theorem dX7_at_17 : decode cX7_at 17 = .ok (.aload 4, 2) := by decide +kernel
theorem dX7_at_19 : decode cX7_at 19 = .ok (.ifnull 8, 3) := by decide +kernel
theorem dX7_at_22 : decode cX7_at 22 = .ok (.aload 5, 2) := by decide +kernel
theorem dX7_at_24 : decode cX7_at 24 = .ok (.ifnonnull 7, 3) := by decide +kernel
theorem dX7_at_27 : decode cX7_at 27 = .ok (.aconst_null, 1) := by decide +kernel
theorem dX7_at_28 : decode cX7_at 28 = .ok (.goto 10, 3) := by decide +kernel
theorem dX7_at_31 : decode cX7_at 31 = .ok (.aload 4, 2) := by decide +kernel
theorem dX7_at_33 : decode cX7_at 33 = .ok (.aload 5, 2) := by decide +kernel
theorem dX7_at_35 : decode cX7_at 35 = .ok (.invokevirtual 78, 3) := by decide +kernel
theorem dX7_at_38 : decode cX7_at 38 = .ok (.astore 6, 2) := by decide +kernel
theorem dX7_at_40 : decode cX7_at 40 = .ok (.aload 6, 2) := by decide +kernel
theorem dX7_at_42 : decode cX7_at 42 = .ok (.ifnull 20, 3) := by decide +kernel
theorem dX7_at_45 : decode cX7_at 45 = .ok (.aload 6, 2) := by decide +kernel
theorem dX7_at_47 : decode cX7_at 47 = .ok (.getfield 92, 3) := by decide +kernel
theorem dX7_at_50 : decode cX7_at 50 = .ok (.ifCond .eq 12, 3) := by decide +kernel
theorem dX7_at_53 : decode cX7_at 53 = .ok (.aload 6, 2) := by decide +kernel
theorem dX7_at_55 : decode cX7_at 55 = .ok (.iload_n 3, 1) := by decide +kernel
theorem dX7_at_56 : decode cX7_at 56 = .ok (.invokevirtual 95, 3) := by decide +kernel
theorem dX7_at_59 : decode cX7_at 59 = .ok (.ifCond .ne 13, 3) := by decide +kernel
theorem dX7_at_62 : decode cX7_at 62 = .ok (.new 99, 3) := by decide +kernel
theorem dX7_at_65 : decode cX7_at 65 = .ok (.dup, 1) := by decide +kernel
theorem dX7_at_66 : decode cX7_at 66 = .ok (.ldc 101, 2) := by decide +kernel
theorem dX7_at_68 : decode cX7_at 68 = .ok (.invokespecial 103, 3) := by decide +kernel
theorem dX7_at_71 : decode cX7_at 71 = .ok (.athrow, 1) := by decide +kernel
theorem dX7_at_72 : decode cX7_at 72 = .ok (.aload 6, 2) := by decide +kernel
theorem dX7_at_74 : decode cX7_at 74 = .ok (.getfield 106, 3) := by decide +kernel
theorem dX7_at_77 : decode cX7_at 77 = .ok (.iload_n 3, 1) := by decide +kernel
theorem dX7_at_78 : decode cX7_at 78 = .ok (.baload, 1) := by decide +kernel
theorem dX7_at_79 : decode cX7_at 79 = .ok (.ireturn, 1) := by decide +kernel
theorem dX7_raised_0 : decode cX7_raised 0 = .ok (.aload_n 0, 1) := by decide +kernel
theorem dX7_raised_1 : decode cX7_raised 1 = .ok (.iload_n 1, 1) := by decide +kernel
theorem dX7_raised_2 : decode cX7_raised 2 = .ok (.invokevirtual 61, 3) := by decide +kernel
theorem dX7_raised_5 : decode cX7_raised 5 = .ok (.astore_n 2, 1) := by decide +kernel
theorem dX7_raised_6 : decode cX7_raised 6 = .ok (.aload_n 2, 1) := by decide +kernel
theorem dX7_raised_7 : decode cX7_raised 7 = .ok (.ifnonnull 8, 3) := by decide +kernel
theorem dX7_raised_10 : decode cX7_raised 10 = .ok (.bipush (-2), 2) := by decide +kernel
theorem dX7_raised_12 : decode cX7_raised 12 = .ok (.goto 7, 3) := by decide +kernel
theorem dX7_raised_15 : decode cX7_raised 15 = .ok (.aload_n 2, 1) := by decide +kernel
theorem dX7_raised_16 : decode cX7_raised 16 = .ok (.getfield 89, 3) := by decide +kernel
theorem dX7_raised_19 : decode cX7_raised 19 = .ok (.ireturn, 1) := by decide +kernel
theorem dX7_told_0 : decode cX7_told 0 = .ok (.aload_n 0, 1) := by decide +kernel
theorem dX7_told_1 : decode cX7_told 1 = .ok (.iload_n 1, 1) := by decide +kernel
theorem dX7_told_2 : decode cX7_told 2 = .ok (.invokevirtual 61, 3) := by decide +kernel
theorem dX7_told_5 : decode cX7_told 5 = .ok (.astore_n 3, 1) := by decide +kernel
theorem dX7_told_6 : decode cX7_told 6 = .ok (.aload_n 3, 1) := by decide +kernel
theorem dX7_told_7 : decode cX7_told 7 = .ok (.ifnonnull 6, 3) := by decide +kernel
theorem dX7_told_10 : decode cX7_told 10 = .ok (.bipush (-2), 2) := by decide +kernel
theorem dX7_told_12 : decode cX7_told 12 = .ok (.ireturn, 1) := by decide +kernel
theorem dX7_told_13 : decode cX7_told 13 = .ok (.aload_n 3, 1) := by decide +kernel
theorem dX7_told_14 : decode cX7_told 14 = .ok (.getfield 110, 3) := by decide +kernel
theorem dX7_told_17 : decode cX7_told 17 = .ok (.ifCond .ne 5, 3) := by decide +kernel
theorem dX7_told_20 : decode cX7_told 20 = .ok (.iconst (-1), 1) := by decide +kernel
theorem dX7_told_21 : decode cX7_told 21 = .ok (.ireturn, 1) := by decide +kernel
theorem dX7_told_22 : decode cX7_told 22 = .ok (.iload_n 2, 1) := by decide +kernel
theorem dX7_told_23 : decode cX7_told 23 = .ok (.tableswitch 49 0 3 #[29, 34, 39, 44], 29) := by decide +kernel
theorem dX7_told_52 : decode cX7_told 52 = .ok (.aload_n 3, 1) := by decide +kernel
theorem dX7_told_53 : decode cX7_told 53 = .ok (.getfield 113, 3) := by decide +kernel
theorem dX7_told_56 : decode cX7_told 56 = .ok (.ireturn, 1) := by decide +kernel
theorem dX7_told_57 : decode cX7_told 57 = .ok (.aload_n 3, 1) := by decide +kernel
theorem dX7_told_58 : decode cX7_told 58 = .ok (.getfield 116, 3) := by decide +kernel
theorem dX7_told_61 : decode cX7_told 61 = .ok (.ireturn, 1) := by decide +kernel
theorem dX7_told_62 : decode cX7_told 62 = .ok (.aload_n 3, 1) := by decide +kernel
theorem dX7_told_63 : decode cX7_told 63 = .ok (.getfield 119, 3) := by decide +kernel
theorem dX7_told_66 : decode cX7_told 66 = .ok (.ireturn, 1) := by decide +kernel
theorem dX7_told_67 : decode cX7_told 67 = .ok (.aload_n 3, 1) := by decide +kernel
theorem dX7_told_68 : decode cX7_told 68 = .ok (.getfield 122, 3) := by decide +kernel
theorem dX7_told_71 : decode cX7_told 71 = .ok (.ireturn, 1) := by decide +kernel
theorem dX7_told_72 : decode cX7_told 72 = .ok (.iconst (-1), 1) := by decide +kernel
theorem dX7_told_73 : decode cX7_told 73 = .ok (.ireturn, 1) := by decide +kernel
theorem dX7_mark_0 : decode cX7_mark 0 = .ok (.aload_n 0, 1) := by decide +kernel
theorem dX7_mark_1 : decode cX7_mark 1 = .ok (.iload_n 1, 1) := by decide +kernel
theorem dX7_mark_2 : decode cX7_mark 2 = .ok (.invokevirtual 61, 3) := by decide +kernel
theorem dX7_mark_5 : decode cX7_mark 5 = .ok (.astore_n 3, 1) := by decide +kernel
theorem dX7_mark_6 : decode cX7_mark 6 = .ok (.aload_n 3, 1) := by decide +kernel
theorem dX7_mark_7 : decode cX7_mark 7 = .ok (.ifnonnull 7, 3) := by decide +kernel
theorem dX7_mark_10 : decode cX7_mark 10 = .ok (.iconst (-1), 1) := by decide +kernel
theorem dX7_mark_11 : decode cX7_mark 11 = .ok (.goto 8, 3) := by decide +kernel
theorem dX7_mark_14 : decode cX7_mark 14 = .ok (.aload_n 3, 1) := by decide +kernel
theorem dX7_mark_15 : decode cX7_mark 15 = .ok (.iload_n 2, 1) := by decide +kernel
theorem dX7_mark_16 : decode cX7_mark 16 = .ok (.invokevirtual 125, 3) := by decide +kernel
theorem dX7_mark_19 : decode cX7_mark 19 = .ok (.ireturn, 1) := by decide +kernel
theorem dX7_octet_0 : decode cX7_octet 0 = .ok (.aload_n 0, 1) := by decide +kernel
theorem dX7_octet_1 : decode cX7_octet 1 = .ok (.getfield 10, 3) := by decide +kernel
theorem dX7_octet_4 : decode cX7_octet 4 = .ok (.iload_n 1, 1) := by decide +kernel
theorem dX7_octet_5 : decode cX7_octet 5 = .ok (.invokevirtual 129, 3) := by decide +kernel
theorem dX7_octet_8 : decode cX7_octet 8 = .ok (.astore_n 3, 1) := by decide +kernel
theorem dX7_octet_9 : decode cX7_octet 9 = .ok (.aload_n 3, 1) := by decide +kernel
theorem dX7_octet_10 : decode cX7_octet 10 = .ok (.ifnonnull 13, 3) := by decide +kernel
theorem dX7_octet_13 : decode cX7_octet 13 = .ok (.new 99, 3) := by decide +kernel
theorem dX7_octet_16 : decode cX7_octet 16 = .ok (.dup, 1) := by decide +kernel
theorem dX7_octet_17 : decode cX7_octet 17 = .ok (.ldc 133, 2) := by decide +kernel
theorem dX7_octet_19 : decode cX7_octet 19 = .ok (.invokespecial 103, 3) := by decide +kernel
theorem dX7_octet_22 : decode cX7_octet 22 = .ok (.athrow, 1) := by decide +kernel
theorem dX7_octet_23 : decode cX7_octet 23 = .ok (.aload_n 0, 1) := by decide +kernel
theorem dX7_octet_24 : decode cX7_octet 24 = .ok (.getfield 28, 3) := by decide +kernel
theorem dX7_octet_27 : decode cX7_octet 27 = .ok (.aload_n 3, 1) := by decide +kernel
theorem dX7_octet_28 : decode cX7_octet 28 = .ok (.invokevirtual 135, 3) := by decide +kernel
theorem dX7_octet_31 : decode cX7_octet 31 = .ok (.astore 4, 2) := by decide +kernel
theorem dX7_octet_33 : decode cX7_octet 33 = .ok (.iload_n 2, 1) := by decide +kernel
theorem dX7_octet_34 : decode cX7_octet 34 = .ok (.ifCond .lt 10, 3) := by decide +kernel
theorem dX7_octet_37 : decode cX7_octet 37 = .ok (.iload_n 2, 1) := by decide +kernel
theorem dX7_octet_38 : decode cX7_octet 38 = .ok (.aload 4, 2) := by decide +kernel
theorem dX7_octet_40 : decode cX7_octet 40 = .ok (.arraylength, 1) := by decide +kernel
theorem dX7_octet_41 : decode cX7_octet 41 = .ok (.if_icmp .lt 13, 3) := by decide +kernel
theorem dX7_octet_44 : decode cX7_octet 44 = .ok (.new 99, 3) := by decide +kernel
theorem dX7_octet_47 : decode cX7_octet 47 = .ok (.dup, 1) := by decide +kernel
theorem dX7_octet_48 : decode cX7_octet 48 = .ok (.ldc 139, 2) := by decide +kernel
theorem dX7_octet_50 : decode cX7_octet 50 = .ok (.invokespecial 103, 3) := by decide +kernel
theorem dX7_octet_53 : decode cX7_octet 53 = .ok (.athrow, 1) := by decide +kernel
theorem dX7_octet_54 : decode cX7_octet 54 = .ok (.aload 4, 2) := by decide +kernel
theorem dX7_octet_56 : decode cX7_octet 56 = .ok (.iload_n 2, 1) := by decide +kernel
theorem dX7_octet_57 : decode cX7_octet 57 = .ok (.baload, 1) := by decide +kernel
theorem dX7_octet_58 : decode cX7_octet 58 = .ok (.ireturn, 1) := by decide +kernel
theorem dX7_shares_0 : decode cX7_shares 0 = .ok (.aload_n 0, 1) := by decide +kernel
theorem dX7_shares_1 : decode cX7_shares 1 = .ok (.iload_n 1, 1) := by decide +kernel
theorem dX7_shares_2 : decode cX7_shares 2 = .ok (.invokevirtual 61, 3) := by decide +kernel
theorem dX7_shares_5 : decode cX7_shares 5 = .ok (.astore_n 3, 1) := by decide +kernel
theorem dX7_shares_6 : decode cX7_shares 6 = .ok (.aload_n 0, 1) := by decide +kernel
theorem dX7_shares_7 : decode cX7_shares 7 = .ok (.iload_n 2, 1) := by decide +kernel
theorem dX7_shares_8 : decode cX7_shares 8 = .ok (.invokevirtual 61, 3) := by decide +kernel
theorem dX7_shares_11 : decode cX7_shares 11 = .ok (.astore 4, 2) := by decide +kernel
theorem dX7_shares_13 : decode cX7_shares 13 = .ok (.aload_n 3, 1) := by decide +kernel
theorem dX7_shares_14 : decode cX7_shares 14 = .ok (.ifnull 25, 3) := by decide +kernel
theorem dX7_shares_17 : decode cX7_shares 17 = .ok (.aload 4, 2) := by decide +kernel
theorem dX7_shares_19 : decode cX7_shares 19 = .ok (.ifnull 20, 3) := by decide +kernel
theorem dX7_shares_22 : decode cX7_shares 22 = .ok (.aload_n 0, 1) := by decide +kernel
theorem dX7_shares_23 : decode cX7_shares 23 = .ok (.getfield 10, 3) := by decide +kernel
theorem dX7_shares_26 : decode cX7_shares 26 = .ok (.aload_n 3, 1) := by decide +kernel
theorem dX7_shares_27 : decode cX7_shares 27 = .ok (.aload 4, 2) := by decide +kernel
theorem dX7_shares_29 : decode cX7_shares 29 = .ok (.invokevirtual 141, 3) := by decide +kernel
theorem dX7_shares_32 : decode cX7_shares 32 = .ok (.ifCond .eq 7, 3) := by decide +kernel
theorem dX7_shares_35 : decode cX7_shares 35 = .ok (.iconst 1, 1) := by decide +kernel
theorem dX7_shares_36 : decode cX7_shares 36 = .ok (.goto 4, 3) := by decide +kernel
theorem dX7_shares_39 : decode cX7_shares 39 = .ok (.iconst 0, 1) := by decide +kernel
theorem dX7_shares_40 : decode cX7_shares 40 = .ok (.ireturn, 1) := by decide +kernel
theorem dX7_cancel_0 : decode cX7_cancel 0 = .ok (.aload_n 0, 1) := by decide +kernel
theorem dX7_cancel_1 : decode cX7_cancel 1 = .ok (.iload_n 1, 1) := by decide +kernel
theorem dX7_cancel_2 : decode cX7_cancel 2 = .ok (.invokevirtual 61, 3) := by decide +kernel
theorem dX7_cancel_5 : decode cX7_cancel 5 = .ok (.astore_n 3, 1) := by decide +kernel
theorem dX7_cancel_6 : decode cX7_cancel 6 = .ok (.aload_n 0, 1) := by decide +kernel
theorem dX7_cancel_7 : decode cX7_cancel 7 = .ok (.getfield 10, 3) := by decide +kernel
theorem dX7_cancel_10 : decode cX7_cancel 10 = .ok (.iload_n 2, 1) := by decide +kernel
theorem dX7_cancel_11 : decode cX7_cancel 11 = .ok (.invokevirtual 42, 3) := by decide +kernel
theorem dX7_cancel_14 : decode cX7_cancel 14 = .ok (.astore 4, 2) := by decide +kernel
theorem dX7_cancel_16 : decode cX7_cancel 16 = .ok (.aload_n 3, 1) := by decide +kernel
theorem dX7_cancel_17 : decode cX7_cancel 17 = .ok (.ifnull 8, 3) := by decide +kernel
theorem dX7_cancel_20 : decode cX7_cancel 20 = .ok (.aload 4, 2) := by decide +kernel
theorem dX7_cancel_22 : decode cX7_cancel 22 = .ok (.ifnonnull 6, 3) := by decide +kernel
theorem dX7_cancel_25 : decode cX7_cancel 25 = .ok (.bipush (-2), 2) := by decide +kernel
theorem dX7_cancel_27 : decode cX7_cancel 27 = .ok (.ireturn, 1) := by decide +kernel
theorem dX7_cancel_28 : decode cX7_cancel 28 = .ok (.aload_n 3, 1) := by decide +kernel
theorem dX7_cancel_29 : decode cX7_cancel 29 = .ok (.getfield 65, 3) := by decide +kernel
theorem dX7_cancel_32 : decode cX7_cancel 32 = .ok (.ifCond .eq 6, 3) := by decide +kernel
theorem dX7_cancel_35 : decode cX7_cancel 35 = .ok (.bipush (-5), 2) := by decide +kernel
theorem dX7_cancel_37 : decode cX7_cancel 37 = .ok (.ireturn, 1) := by decide +kernel
theorem dX7_cancel_38 : decode cX7_cancel 38 = .ok (.aload_n 3, 1) := by decide +kernel
theorem dX7_cancel_39 : decode cX7_cancel 39 = .ok (.aload 4, 2) := by decide +kernel
theorem dX7_cancel_41 : decode cX7_cancel 41 = .ok (.invokevirtual 78, 3) := by decide +kernel
theorem dX7_cancel_44 : decode cX7_cancel 44 = .ok (.astore 5, 2) := by decide +kernel
theorem dX7_cancel_46 : decode cX7_cancel 46 = .ok (.aload 5, 2) := by decide +kernel
theorem dX7_cancel_48 : decode cX7_cancel 48 = .ok (.ifnull 11, 3) := by decide +kernel
theorem dX7_cancel_51 : decode cX7_cancel 51 = .ok (.aload 5, 2) := by decide +kernel
theorem dX7_cancel_53 : decode cX7_cancel 53 = .ok (.getfield 92, 3) := by decide +kernel
theorem dX7_cancel_56 : decode cX7_cancel 56 = .ok (.ifCond .ne 5, 3) := by decide +kernel
theorem dX7_cancel_59 : decode cX7_cancel 59 = .ok (.iconst 0, 1) := by decide +kernel
theorem dX7_cancel_60 : decode cX7_cancel 60 = .ok (.ireturn, 1) := by decide +kernel
theorem dX7_cancel_61 : decode cX7_cancel 61 = .ok (.aload 5, 2) := by decide +kernel
theorem dX7_cancel_63 : decode cX7_cancel 63 = .ok (.iconst 0, 1) := by decide +kernel
theorem dX7_cancel_64 : decode cX7_cancel 64 = .ok (.putfield 92, 3) := by decide +kernel
theorem dX7_cancel_67 : decode cX7_cancel 67 = .ok (.iconst 1, 1) := by decide +kernel
theorem dX7_cancel_68 : decode cX7_cancel 68 = .ok (.ireturn, 1) := by decide +kernel
theorem dX7_plain_0 : decode cX7_plain 0 = .ok (.iload_n 1, 1) := by decide +kernel
theorem dX7_plain_1 : decode cX7_plain 1 = .ok (.iconst 3, 1) := by decide +kernel
theorem dX7_plain_2 : decode cX7_plain 2 = .ok (.if_icmp .eq 8, 3) := by decide +kernel
theorem dX7_plain_5 : decode cX7_plain 5 = .ok (.iload_n 1, 1) := by decide +kernel
theorem dX7_plain_6 : decode cX7_plain 6 = .ok (.iconst 4, 1) := by decide +kernel
theorem dX7_plain_7 : decode cX7_plain 7 = .ok (.if_icmp .ne 20, 3) := by decide +kernel
theorem dX7_plain_10 : decode cX7_plain 10 = .ok (.lload 4, 2) := by decide +kernel
theorem dX7_plain_12 : decode cX7_plain 12 = .ok (.lconst 0, 1) := by decide +kernel
theorem dX7_plain_13 : decode cX7_plain 13 = .ok (.lcmp, 1) := by decide +kernel
theorem dX7_plain_14 : decode cX7_plain 14 = .ok (.ifCond .ne 13, 3) := by decide +kernel
theorem dX7_plain_17 : decode cX7_plain 17 = .ok (.new 145, 3) := by decide +kernel
theorem dX7_plain_20 : decode cX7_plain 20 = .ok (.dup, 1) := by decide +kernel
theorem dX7_plain_21 : decode cX7_plain 21 = .ok (.ldc 147, 2) := by decide +kernel
theorem dX7_plain_23 : decode cX7_plain 23 = .ok (.invokespecial 149, 3) := by decide +kernel
theorem dX7_plain_26 : decode cX7_plain 26 = .ok (.athrow, 1) := by decide +kernel
theorem dX7_plain_27 : decode cX7_plain 27 = .ok (.iload_n 1, 1) := by decide +kernel
theorem dX7_plain_28 : decode cX7_plain 28 = .ok (.iconst 5, 1) := by decide +kernel
theorem dX7_plain_29 : decode cX7_plain 29 = .ok (.if_icmp .ne 19, 3) := by decide +kernel
theorem dX7_plain_32 : decode cX7_plain 32 = .ok (.lload_n 2, 1) := by decide +kernel
theorem dX7_plain_33 : decode cX7_plain 33 = .ok (.lconst 0, 1) := by decide +kernel
theorem dX7_plain_34 : decode cX7_plain 34 = .ok (.lcmp, 1) := by decide +kernel
theorem dX7_plain_35 : decode cX7_plain 35 = .ok (.ifCond .ge 13, 3) := by decide +kernel
theorem dX7_plain_38 : decode cX7_plain 38 = .ok (.new 150, 3) := by decide +kernel
theorem dX7_plain_41 : decode cX7_plain 41 = .ok (.dup, 1) := by decide +kernel
theorem dX7_plain_42 : decode cX7_plain 42 = .ok (.ldc 152, 2) := by decide +kernel
theorem dX7_plain_44 : decode cX7_plain 44 = .ok (.invokespecial 154, 3) := by decide +kernel
theorem dX7_plain_47 : decode cX7_plain 47 = .ok (.athrow, 1) := by decide +kernel
theorem dX7_plain_48 : decode cX7_plain 48 = .ok (.iload_n 1, 1) := by decide +kernel
theorem dX7_plain_49 : decode cX7_plain 49 = .ok (.tableswitch 72 0 5 #[39, 44, 49, 54, 59, 64], 39) := by decide +kernel
theorem dX7_plain_88 : decode cX7_plain 88 = .ok (.lload_n 2, 1) := by decide +kernel
theorem dX7_plain_89 : decode cX7_plain 89 = .ok (.lload 4, 2) := by decide +kernel
theorem dX7_plain_91 : decode cX7_plain 91 = .ok (.ladd, 1) := by decide +kernel
theorem dX7_plain_92 : decode cX7_plain 92 = .ok (.lreturn, 1) := by decide +kernel
theorem dX7_plain_93 : decode cX7_plain 93 = .ok (.lload_n 2, 1) := by decide +kernel
theorem dX7_plain_94 : decode cX7_plain 94 = .ok (.lload 4, 2) := by decide +kernel
theorem dX7_plain_96 : decode cX7_plain 96 = .ok (.lsub, 1) := by decide +kernel
theorem dX7_plain_97 : decode cX7_plain 97 = .ok (.lreturn, 1) := by decide +kernel
theorem dX7_plain_98 : decode cX7_plain 98 = .ok (.lload_n 2, 1) := by decide +kernel
theorem dX7_plain_99 : decode cX7_plain 99 = .ok (.lload 4, 2) := by decide +kernel
theorem dX7_plain_101 : decode cX7_plain 101 = .ok (.lmul, 1) := by decide +kernel
theorem dX7_plain_102 : decode cX7_plain 102 = .ok (.lreturn, 1) := by decide +kernel
theorem dX7_plain_103 : decode cX7_plain 103 = .ok (.lload_n 2, 1) := by decide +kernel
theorem dX7_plain_104 : decode cX7_plain 104 = .ok (.lload 4, 2) := by decide +kernel
theorem dX7_plain_106 : decode cX7_plain 106 = .ok (.ldiv, 1) := by decide +kernel
theorem dX7_plain_107 : decode cX7_plain 107 = .ok (.lreturn, 1) := by decide +kernel
theorem dX7_plain_108 : decode cX7_plain 108 = .ok (.lload_n 2, 1) := by decide +kernel
theorem dX7_plain_109 : decode cX7_plain 109 = .ok (.lload 4, 2) := by decide +kernel
theorem dX7_plain_111 : decode cX7_plain 111 = .ok (.lrem, 1) := by decide +kernel
theorem dX7_plain_112 : decode cX7_plain 112 = .ok (.lreturn, 1) := by decide +kernel
theorem dX7_plain_113 : decode cX7_plain 113 = .ok (.lload_n 2, 1) := by decide +kernel
theorem dX7_plain_114 : decode cX7_plain 114 = .ok (.ldc2_w 155, 3) := by decide +kernel
theorem dX7_plain_117 : decode cX7_plain 117 = .ok (.invokestatic 157, 3) := by decide +kernel
theorem dX7_plain_120 : decode cX7_plain 120 = .ok (.lreturn, 1) := by decide +kernel
theorem dX7_plain_121 : decode cX7_plain 121 = .ok (.lconst 0, 1) := by decide +kernel
theorem dX7_plain_122 : decode cX7_plain 122 = .ok (.lreturn, 1) := by decide +kernel
theorem dX7_state_0 : decode cX7_state 0 = .ok (.aload_n 0, 1) := by decide +kernel
theorem dX7_state_1 : decode cX7_state 1 = .ok (.getfield 10, 3) := by decide +kernel
theorem dX7_state_4 : decode cX7_state 4 = .ok (.iload_n 1, 1) := by decide +kernel
theorem dX7_state_5 : decode cX7_state 5 = .ok (.invokevirtual 129, 3) := by decide +kernel
theorem dX7_state_8 : decode cX7_state 8 = .ok (.astore_n 2, 1) := by decide +kernel
theorem dX7_state_9 : decode cX7_state 9 = .ok (.aload_n 2, 1) := by decide +kernel
theorem dX7_state_10 : decode cX7_state 10 = .ok (.ifnonnull 6, 3) := by decide +kernel
theorem dX7_state_13 : decode cX7_state 13 = .ok (.bipush (-2), 2) := by decide +kernel
theorem dX7_state_15 : decode cX7_state 15 = .ok (.ireturn, 1) := by decide +kernel
theorem dX7_state_16 : decode cX7_state 16 = .ok (.aload_n 2, 1) := by decide +kernel
theorem dX7_state_17 : decode cX7_state 17 = .ok (.getfield 163, 3) := by decide +kernel
theorem dX7_state_20 : decode cX7_state 20 = .ok (.ifCond .eq 5, 3) := by decide +kernel
theorem dX7_state_23 : decode cX7_state 23 = .ok (.iconst 2, 1) := by decide +kernel
theorem dX7_state_24 : decode cX7_state 24 = .ok (.ireturn, 1) := by decide +kernel
theorem dX7_state_25 : decode cX7_state 25 = .ok (.aload_n 2, 1) := by decide +kernel
theorem dX7_state_26 : decode cX7_state 26 = .ok (.getfield 166, 3) := by decide +kernel
theorem dX7_state_29 : decode cX7_state 29 = .ok (.getfield 65, 3) := by decide +kernel
theorem dX7_state_32 : decode cX7_state 32 = .ok (.ifCond .eq 5, 3) := by decide +kernel
theorem dX7_state_35 : decode cX7_state 35 = .ok (.iconst 4, 1) := by decide +kernel
theorem dX7_state_36 : decode cX7_state 36 = .ok (.ireturn, 1) := by decide +kernel
theorem dX7_state_37 : decode cX7_state 37 = .ok (.aload_n 2, 1) := by decide +kernel
theorem dX7_state_38 : decode cX7_state 38 = .ok (.getfield 170, 3) := by decide +kernel
theorem dX7_state_41 : decode cX7_state 41 = .ok (.ifCond .eq 5, 3) := by decide +kernel
theorem dX7_state_44 : decode cX7_state 44 = .ok (.iconst 3, 1) := by decide +kernel
theorem dX7_state_45 : decode cX7_state 45 = .ok (.ireturn, 1) := by decide +kernel
theorem dX7_state_46 : decode cX7_state 46 = .ok (.aload_n 2, 1) := by decide +kernel
theorem dX7_state_47 : decode cX7_state 47 = .ok (.getfield 92, 3) := by decide +kernel
theorem dX7_state_50 : decode cX7_state 50 = .ok (.ifCond .eq 7, 3) := by decide +kernel
theorem dX7_state_53 : decode cX7_state 53 = .ok (.iconst 1, 1) := by decide +kernel
theorem dX7_state_54 : decode cX7_state 54 = .ok (.goto 4, 3) := by decide +kernel
theorem dX7_state_57 : decode cX7_state 57 = .ok (.iconst 0, 1) := by decide +kernel
theorem dX7_state_58 : decode cX7_state 58 = .ok (.ireturn, 1) := by decide +kernel
theorem dX7_count_0 : decode cX7_count 0 = .ok (.iload_n 1, 1) := by decide +kernel
theorem dX7_count_1 : decode cX7_count 1 = .ok (.tableswitch 85 0 3 #[31, 39, 44, 52], 31) := by decide +kernel
theorem dX7_count_32 : decode cX7_count 32 = .ok (.aload_n 0, 1) := by decide +kernel
theorem dX7_count_33 : decode cX7_count 33 = .ok (.getfield 10, 3) := by decide +kernel
theorem dX7_count_36 : decode cX7_count 36 = .ok (.getfield 173, 3) := by decide +kernel
theorem dX7_count_39 : decode cX7_count 39 = .ok (.ireturn, 1) := by decide +kernel
theorem dX7_count_40 : decode cX7_count 40 = .ok (.aload_n 0, 1) := by decide +kernel
theorem dX7_count_41 : decode cX7_count 41 = .ok (.getfield 56, 3) := by decide +kernel
theorem dX7_count_44 : decode cX7_count 44 = .ok (.ireturn, 1) := by decide +kernel
theorem dX7_count_45 : decode cX7_count 45 = .ok (.aload_n 0, 1) := by decide +kernel
theorem dX7_count_46 : decode cX7_count 46 = .ok (.getfield 10, 3) := by decide +kernel
theorem dX7_count_49 : decode cX7_count 49 = .ok (.getfield 176, 3) := by decide +kernel
theorem dX7_count_52 : decode cX7_count 52 = .ok (.ireturn, 1) := by decide +kernel
theorem dX7_count_53 : decode cX7_count 53 = .ok (.aload_n 0, 1) := by decide +kernel
theorem dX7_count_54 : decode cX7_count 54 = .ok (.getfield 10, 3) := by decide +kernel
theorem dX7_count_57 : decode cX7_count 57 = .ok (.aload_n 0, 1) := by decide +kernel
theorem dX7_count_58 : decode cX7_count 58 = .ok (.getfield 10, 3) := by decide +kernel
theorem dX7_count_61 : decode cX7_count 61 = .ok (.getfield 176, 3) := by decide +kernel
theorem dX7_count_64 : decode cX7_count 64 = .ok (.invokevirtual 129, 3) := by decide +kernel
theorem dX7_count_67 : decode cX7_count 67 = .ok (.astore_n 2, 1) := by decide +kernel
theorem dX7_count_68 : decode cX7_count 68 = .ok (.aload_n 2, 1) := by decide +kernel
theorem dX7_count_69 : decode cX7_count 69 = .ok (.ifnonnull 7, 3) := by decide +kernel
theorem dX7_count_72 : decode cX7_count 72 = .ok (.iconst 0, 1) := by decide +kernel
theorem dX7_count_73 : decode cX7_count 73 = .ok (.goto 12, 3) := by decide +kernel
theorem dX7_count_76 : decode cX7_count 76 = .ok (.aload_n 0, 1) := by decide +kernel
theorem dX7_count_77 : decode cX7_count 77 = .ok (.getfield 28, 3) := by decide +kernel
theorem dX7_count_80 : decode cX7_count 80 = .ok (.aload_n 2, 1) := by decide +kernel
theorem dX7_count_81 : decode cX7_count 81 = .ok (.invokevirtual 135, 3) := by decide +kernel
theorem dX7_count_84 : decode cX7_count 84 = .ok (.arraylength, 1) := by decide +kernel
theorem dX7_count_85 : decode cX7_count 85 = .ok (.ireturn, 1) := by decide +kernel
theorem dX7_count_86 : decode cX7_count 86 = .ok (.iconst (-1), 1) := by decide +kernel
theorem dX7_count_87 : decode cX7_count 87 = .ok (.ireturn, 1) := by decide +kernel
theorem dX7_findUnit_0 : decode cX7_findUnit 0 = .ok (.iload_n 1, 1) := by decide +kernel
theorem dX7_findUnit_1 : decode cX7_findUnit 1 = .ok (.iconst 1, 1) := by decide +kernel
theorem dX7_findUnit_2 : decode cX7_findUnit 2 = .ok (.if_icmp .lt 22, 3) := by decide +kernel
theorem dX7_findUnit_5 : decode cX7_findUnit 5 = .ok (.iload_n 1, 1) := by decide +kernel
theorem dX7_findUnit_6 : decode cX7_findUnit 6 = .ok (.aload_n 0, 1) := by decide +kernel
theorem dX7_findUnit_7 : decode cX7_findUnit 7 = .ok (.getfield 56, 3) := by decide +kernel
theorem dX7_findUnit_10 : decode cX7_findUnit 10 = .ok (.if_icmp .gt 14, 3) := by decide +kernel
theorem dX7_findUnit_13 : decode cX7_findUnit 13 = .ok (.aload_n 0, 1) := by decide +kernel
theorem dX7_findUnit_14 : decode cX7_findUnit 14 = .ok (.getfield 34, 3) := by decide +kernel
theorem dX7_findUnit_17 : decode cX7_findUnit 17 = .ok (.iload_n 1, 1) := by decide +kernel
theorem dX7_findUnit_18 : decode cX7_findUnit 18 = .ok (.iconst 1, 1) := by decide +kernel
theorem dX7_findUnit_19 : decode cX7_findUnit 19 = .ok (.isub, 1) := by decide +kernel
theorem dX7_findUnit_20 : decode cX7_findUnit 20 = .ok (.aaload, 1) := by decide +kernel
theorem dX7_findUnit_21 : decode cX7_findUnit 21 = .ok (.goto 4, 3) := by decide +kernel
theorem dX7_findUnit_24 : decode cX7_findUnit 24 = .ok (.aconst_null, 1) := by decide +kernel
theorem dX7_findUnit_25 : decode cX7_findUnit 25 = .ok (.areturn, 1) := by decide +kernel
theorem dX8_init_0 : decode cX8_init 0 = .ok (.aload_n 0, 1) := by decide +kernel
theorem dX8_init_1 : decode cX8_init 1 = .ok (.invokespecial 1, 3) := by decide +kernel
theorem dX8_init_4 : decode cX8_init 4 = .ok (.aload_n 0, 1) := by decide +kernel
theorem dX8_init_5 : decode cX8_init 5 = .ok (.bipush 13, 2) := by decide +kernel
theorem dX8_init_7 : decode cX8_init 7 = .ok (.newarray .int, 2) := by decide +kernel
theorem dX8_init_9 : decode cX8_init 9 = .ok (.putfield 7, 3) := by decide +kernel
theorem dX8_init_12 : decode cX8_init 12 = .ok (.aload_n 0, 1) := by decide +kernel
theorem dX8_init_13 : decode cX8_init 13 = .ok (.bipush 13, 2) := by decide +kernel
theorem dX8_init_15 : decode cX8_init 15 = .ok (.newarray .int, 2) := by decide +kernel
theorem dX8_init_17 : decode cX8_init 17 = .ok (.putfield 13, 3) := by decide +kernel
theorem dX8_init_20 : decode cX8_init 20 = .ok (.aload_n 0, 1) := by decide +kernel
theorem dX8_init_21 : decode cX8_init 21 = .ok (.sipush 793, 3) := by decide +kernel
theorem dX8_init_24 : decode cX8_init 24 = .ok (.newarray .int, 2) := by decide +kernel
theorem dX8_init_26 : decode cX8_init 26 = .ok (.putfield 16, 3) := by decide +kernel
theorem dX8_init_29 : decode cX8_init 29 = .ok (.aload_n 0, 1) := by decide +kernel
theorem dX8_init_30 : decode cX8_init 30 = .ok (.sipush 793, 3) := by decide +kernel
theorem dX8_init_33 : decode cX8_init 33 = .ok (.newarray .int, 2) := by decide +kernel
theorem dX8_init_35 : decode cX8_init 35 = .ok (.putfield 19, 3) := by decide +kernel
theorem dX8_init_38 : decode cX8_init 38 = .ok (.aload_n 0, 1) := by decide +kernel
theorem dX8_init_39 : decode cX8_init 39 = .ok (.sipush 793, 3) := by decide +kernel
theorem dX8_init_42 : decode cX8_init 42 = .ok (.newarray .int, 2) := by decide +kernel
theorem dX8_init_44 : decode cX8_init 44 = .ok (.putfield 22, 3) := by decide +kernel
theorem dX8_init_47 : decode cX8_init 47 = .ok (.aload_n 0, 1) := by decide +kernel
theorem dX8_init_48 : decode cX8_init 48 = .ok (.bipush 13, 2) := by decide +kernel
theorem dX8_init_50 : decode cX8_init 50 = .ok (.newarray .boolean, 2) := by decide +kernel
theorem dX8_init_52 : decode cX8_init 52 = .ok (.putfield 25, 3) := by decide +kernel
theorem dX8_init_55 : decode cX8_init 55 = .ok (.aload_n 0, 1) := by decide +kernel
theorem dX8_init_56 : decode cX8_init 56 = .ok (.bipush 41, 2) := by decide +kernel
theorem dX8_init_58 : decode cX8_init 58 = .ok (.newarray .int, 2) := by decide +kernel
theorem dX8_init_60 : decode cX8_init 60 = .ok (.putfield 29, 3) := by decide +kernel
theorem dX8_init_63 : decode cX8_init 63 = .ok (.aload_n 0, 1) := by decide +kernel
theorem dX8_init_64 : decode cX8_init 64 = .ok (.bipush 41, 2) := by decide +kernel
theorem dX8_init_66 : decode cX8_init 66 = .ok (.newarray .int, 2) := by decide +kernel
theorem dX8_init_68 : decode cX8_init 68 = .ok (.putfield 32, 3) := by decide +kernel
theorem dX8_init_71 : decode cX8_init 71 = .ok (.aload_n 0, 1) := by decide +kernel
theorem dX8_init_72 : decode cX8_init 72 = .ok (.bipush 41, 2) := by decide +kernel
theorem dX8_init_74 : decode cX8_init 74 = .ok (.newarray .int, 2) := by decide +kernel
theorem dX8_init_76 : decode cX8_init 76 = .ok (.putfield 35, 3) := by decide +kernel
theorem dX8_init_79 : decode cX8_init 79 = .ok (.aload_n 0, 1) := by decide +kernel
theorem dX8_init_80 : decode cX8_init 80 = .ok (.bipush 41, 2) := by decide +kernel
theorem dX8_init_82 : decode cX8_init 82 = .ok (.newarray .boolean, 2) := by decide +kernel
theorem dX8_init_84 : decode cX8_init 84 = .ok (.putfield 38, 3) := by decide +kernel
theorem dX8_init_87 : decode cX8_init 87 = .ok (.aload_n 0, 1) := by decide +kernel
theorem dX8_init_88 : decode cX8_init 88 = .ok (.bipush 41, 2) := by decide +kernel
theorem dX8_init_90 : decode cX8_init 90 = .ok (.newarray .boolean, 2) := by decide +kernel
theorem dX8_init_92 : decode cX8_init 92 = .ok (.putfield 41, 3) := by decide +kernel
theorem dX8_init_95 : decode cX8_init 95 = .ok (.aload_n 0, 1) := by decide +kernel
theorem dX8_init_96 : decode cX8_init 96 = .ok (.bipush 41, 2) := by decide +kernel
theorem dX8_init_98 : decode cX8_init 98 = .ok (.newarray .boolean, 2) := by decide +kernel
theorem dX8_init_100 : decode cX8_init 100 = .ok (.putfield 44, 3) := by decide +kernel
theorem dX8_init_103 : decode cX8_init 103 = .ok (.aload_n 0, 1) := by decide +kernel
theorem dX8_init_104 : decode cX8_init 104 = .ok (.bipush 9, 2) := by decide +kernel
theorem dX8_init_106 : decode cX8_init 106 = .ok (.newarray .boolean, 2) := by decide +kernel
theorem dX8_init_108 : decode cX8_init 108 = .ok (.putfield 47, 3) := by decide +kernel
theorem dX8_init_111 : decode cX8_init 111 = .ok (.aload_n 0, 1) := by decide +kernel
theorem dX8_init_112 : decode cX8_init 112 = .ok (.bipush 9, 2) := by decide +kernel
theorem dX8_init_114 : decode cX8_init 114 = .ok (.newarray .boolean, 2) := by decide +kernel
theorem dX8_init_116 : decode cX8_init 116 = .ok (.putfield 50, 3) := by decide +kernel
theorem dX8_init_119 : decode cX8_init 119 = .ok (.aload_n 0, 1) := by decide +kernel
theorem dX8_init_120 : decode cX8_init 120 = .ok (.sipush 130, 3) := by decide +kernel
theorem dX8_init_123 : decode cX8_init 123 = .ok (.newarray .int, 2) := by decide +kernel
theorem dX8_init_125 : decode cX8_init 125 = .ok (.putfield 53, 3) := by decide +kernel
theorem dX8_init_128 : decode cX8_init 128 = .ok (.aload_n 0, 1) := by decide +kernel
theorem dX8_init_129 : decode cX8_init 129 = .ok (.bipush 9, 2) := by decide +kernel
theorem dX8_init_131 : decode cX8_init 131 = .ok (.newarray .int, 2) := by decide +kernel
theorem dX8_init_133 : decode cX8_init 133 = .ok (.putfield 56, 3) := by decide +kernel
theorem dX8_init_136 : decode cX8_init 136 = .ok (.aload_n 0, 1) := by decide +kernel
theorem dX8_init_137 : decode cX8_init 137 = .ok (.bipush 9, 2) := by decide +kernel
theorem dX8_init_139 : decode cX8_init 139 = .ok (.newarray .int, 2) := by decide +kernel
theorem dX8_init_141 : decode cX8_init 141 = .ok (.putfield 59, 3) := by decide +kernel
theorem dX8_init_144 : decode cX8_init 144 = .ok (.aload_n 0, 1) := by decide +kernel
theorem dX8_init_145 : decode cX8_init 145 = .ok (.bipush 9, 2) := by decide +kernel
theorem dX8_init_147 : decode cX8_init 147 = .ok (.newarray .int, 2) := by decide +kernel
theorem dX8_init_149 : decode cX8_init 149 = .ok (.putfield 62, 3) := by decide +kernel
theorem dX8_init_152 : decode cX8_init 152 = .ok (.aload_n 0, 1) := by decide +kernel
theorem dX8_init_153 : decode cX8_init 153 = .ok (.bipush 9, 2) := by decide +kernel
theorem dX8_init_155 : decode cX8_init 155 = .ok (.newarray .int, 2) := by decide +kernel
theorem dX8_init_157 : decode cX8_init 157 = .ok (.putfield 65, 3) := by decide +kernel
theorem dX8_init_160 : decode cX8_init 160 = .ok (.aload_n 0, 1) := by decide +kernel
theorem dX8_init_161 : decode cX8_init 161 = .ok (.bipush 9, 2) := by decide +kernel
theorem dX8_init_163 : decode cX8_init 163 = .ok (.newarray .int, 2) := by decide +kernel
theorem dX8_init_165 : decode cX8_init 165 = .ok (.putfield 68, 3) := by decide +kernel
theorem dX8_init_168 : decode cX8_init 168 = .ok (.aload_n 0, 1) := by decide +kernel
theorem dX8_init_169 : decode cX8_init 169 = .ok (.sipush 12000, 3) := by decide +kernel
theorem dX8_init_172 : decode cX8_init 172 = .ok (.newarray .byte, 2) := by decide +kernel
theorem dX8_init_174 : decode cX8_init 174 = .ok (.putfield 71, 3) := by decide +kernel
theorem dX8_init_177 : decode cX8_init 177 = .ok (.aload_n 0, 1) := by decide +kernel
theorem dX8_init_178 : decode cX8_init 178 = .ok (.sipush 900, 3) := by decide +kernel
theorem dX8_init_181 : decode cX8_init 181 = .ok (.newarray .int, 2) := by decide +kernel
theorem dX8_init_183 : decode cX8_init 183 = .ok (.putfield 75, 3) := by decide +kernel
theorem dX8_init_186 : decode cX8_init 186 = .ok (.aload_n 0, 1) := by decide +kernel
theorem dX8_init_187 : decode cX8_init 187 = .ok (.bipush 12, 2) := by decide +kernel
theorem dX8_init_189 : decode cX8_init 189 = .ok (.newarray .int, 2) := by decide +kernel
theorem dX8_init_191 : decode cX8_init 191 = .ok (.putfield 78, 3) := by decide +kernel
theorem dX8_init_194 : decode cX8_init 194 = .ok (.aload_n 0, 1) := by decide +kernel
theorem dX8_init_195 : decode cX8_init 195 = .ok (.bipush 12, 2) := by decide +kernel
theorem dX8_init_197 : decode cX8_init 197 = .ok (.newarray .int, 2) := by decide +kernel
theorem dX8_init_199 : decode cX8_init 199 = .ok (.putfield 81, 3) := by decide +kernel
theorem dX8_init_202 : decode cX8_init 202 = .ok (.aload_n 0, 1) := by decide +kernel
theorem dX8_init_203 : decode cX8_init 203 = .ok (.sipush 3000, 3) := by decide +kernel
theorem dX8_init_206 : decode cX8_init 206 = .ok (.newarray .int, 2) := by decide +kernel
theorem dX8_init_208 : decode cX8_init 208 = .ok (.putfield 84, 3) := by decide +kernel
theorem dX8_init_211 : decode cX8_init 211 = .ok (.return_, 1) := by decide +kernel
theorem dX8_thrown_0 : decode cX8_thrown 0 = .ok (.aload_n 0, 1) := by decide +kernel
theorem dX8_thrown_1 : decode cX8_thrown 1 = .ok (.getfield 87, 3) := by decide +kernel
theorem dX8_thrown_4 : decode cX8_thrown 4 = .ok (.ireturn, 1) := by decide +kernel
theorem dX8_isProgram_0 : decode cX8_isProgram 0 = .ok (.iload_n 1, 1) := by decide +kernel
theorem dX8_isProgram_1 : decode cX8_isProgram 1 = .ok (.iconst 1, 1) := by decide +kernel
theorem dX8_isProgram_2 : decode cX8_isProgram 2 = .ok (.if_icmp .lt 15, 3) := by decide +kernel
theorem dX8_isProgram_5 : decode cX8_isProgram 5 = .ok (.iload_n 1, 1) := by decide +kernel
theorem dX8_isProgram_6 : decode cX8_isProgram 6 = .ok (.aload_n 0, 1) := by decide +kernel
theorem dX8_isProgram_7 : decode cX8_isProgram 7 = .ok (.getfield 91, 3) := by decide +kernel
theorem dX8_isProgram_10 : decode cX8_isProgram 10 = .ok (.if_icmp .gt 7, 3) := by decide +kernel
theorem dX8_isProgram_13 : decode cX8_isProgram 13 = .ok (.iconst 1, 1) := by decide +kernel
theorem dX8_isProgram_14 : decode cX8_isProgram 14 = .ok (.goto 4, 3) := by decide +kernel
theorem dX8_isProgram_17 : decode cX8_isProgram 17 = .ok (.iconst 0, 1) := by decide +kernel
theorem dX8_isProgram_18 : decode cX8_isProgram 18 = .ok (.ireturn, 1) := by decide +kernel
theorem dX8_isUnit_0 : decode cX8_isUnit 0 = .ok (.iload_n 1, 1) := by decide +kernel
theorem dX8_isUnit_1 : decode cX8_isUnit 1 = .ok (.iconst 1, 1) := by decide +kernel
theorem dX8_isUnit_2 : decode cX8_isUnit 2 = .ok (.if_icmp .lt 15, 3) := by decide +kernel
theorem dX8_isUnit_5 : decode cX8_isUnit 5 = .ok (.iload_n 1, 1) := by decide +kernel
theorem dX8_isUnit_6 : decode cX8_isUnit 6 = .ok (.aload_n 0, 1) := by decide +kernel
theorem dX8_isUnit_7 : decode cX8_isUnit 7 = .ok (.getfield 94, 3) := by decide +kernel
theorem dX8_isUnit_10 : decode cX8_isUnit 10 = .ok (.if_icmp .gt 7, 3) := by decide +kernel
theorem dX8_isUnit_13 : decode cX8_isUnit 13 = .ok (.iconst 1, 1) := by decide +kernel
theorem dX8_isUnit_14 : decode cX8_isUnit 14 = .ok (.goto 4, 3) := by decide +kernel
theorem dX8_isUnit_17 : decode cX8_isUnit 17 = .ok (.iconst 0, 1) := by decide +kernel
theorem dX8_isUnit_18 : decode cX8_isUnit 18 = .ok (.ireturn, 1) := by decide +kernel
theorem dX8_program_0 : decode cX8_program 0 = .ok (.aload_n 0, 1) := by decide +kernel
theorem dX8_program_1 : decode cX8_program 1 = .ok (.iconst 0, 1) := by decide +kernel
theorem dX8_program_2 : decode cX8_program 2 = .ok (.putfield 87, 3) := by decide +kernel
theorem dX8_program_5 : decode cX8_program 5 = .ok (.iload_n 1, 1) := by decide +kernel
theorem dX8_program_6 : decode cX8_program 6 = .ok (.iconst 1, 1) := by decide +kernel
theorem dX8_program_7 : decode cX8_program 7 = .ok (.if_icmp .lt 9, 3) := by decide +kernel
theorem dX8_program_10 : decode cX8_program 10 = .ok (.iload_n 1, 1) := by decide +kernel
theorem dX8_program_11 : decode cX8_program 11 = .ok (.bipush 100, 2) := by decide +kernel
theorem dX8_program_13 : decode cX8_program 13 = .ok (.if_icmp .le 6, 3) := by decide +kernel
theorem dX8_program_16 : decode cX8_program 16 = .ok (.bipush (-4), 2) := by decide +kernel
theorem dX8_program_18 : decode cX8_program 18 = .ok (.ireturn, 1) := by decide +kernel
theorem dX8_program_19 : decode cX8_program 19 = .ok (.aload_n 0, 1) := by decide +kernel
theorem dX8_program_20 : decode cX8_program 20 = .ok (.getfield 91, 3) := by decide +kernel
theorem dX8_program_23 : decode cX8_program 23 = .ok (.bipush 12, 2) := by decide +kernel
theorem dX8_program_25 : decode cX8_program 25 = .ok (.if_icmp .ne 5, 3) := by decide +kernel
theorem dX8_program_28 : decode cX8_program 28 = .ok (.iconst (-1), 1) := by decide +kernel
theorem dX8_program_29 : decode cX8_program 29 = .ok (.ireturn, 1) := by decide +kernel
theorem dX8_program_30 : decode cX8_program 30 = .ok (.aload_n 0, 1) := by decide +kernel
theorem dX8_program_31 : decode cX8_program 31 = .ok (.dup, 1) := by decide +kernel
theorem dX8_program_32 : decode cX8_program 32 = .ok (.getfield 91, 3) := by decide +kernel
theorem dX8_program_35 : decode cX8_program 35 = .ok (.iconst 1, 1) := by decide +kernel
theorem dX8_program_36 : decode cX8_program 36 = .ok (.iadd, 1) := by decide +kernel
theorem dX8_program_37 : decode cX8_program 37 = .ok (.putfield 91, 3) := by decide +kernel
theorem dX8_program_40 : decode cX8_program 40 = .ok (.aload_n 0, 1) := by decide +kernel
theorem dX8_program_41 : decode cX8_program 41 = .ok (.getfield 7, 3) := by decide +kernel
theorem dX8_program_44 : decode cX8_program 44 = .ok (.aload_n 0, 1) := by decide +kernel
theorem dX8_program_45 : decode cX8_program 45 = .ok (.getfield 91, 3) := by decide +kernel
theorem dX8_program_48 : decode cX8_program 48 = .ok (.iload_n 1, 1) := by decide +kernel
theorem dX8_program_49 : decode cX8_program 49 = .ok (.iastore, 1) := by decide +kernel
theorem dX8_program_50 : decode cX8_program 50 = .ok (.aload_n 0, 1) := by decide +kernel
theorem dX8_program_51 : decode cX8_program 51 = .ok (.getfield 25, 3) := by decide +kernel
theorem dX8_program_54 : decode cX8_program 54 = .ok (.aload_n 0, 1) := by decide +kernel
theorem dX8_program_55 : decode cX8_program 55 = .ok (.getfield 91, 3) := by decide +kernel
theorem dX8_program_58 : decode cX8_program 58 = .ok (.iload_n 2, 1) := by decide +kernel
theorem dX8_program_59 : decode cX8_program 59 = .ok (.bastore, 1) := by decide +kernel
theorem dX8_program_60 : decode cX8_program 60 = .ok (.aload_n 0, 1) := by decide +kernel
theorem dX8_program_61 : decode cX8_program 61 = .ok (.getfield 91, 3) := by decide +kernel
theorem dX8_program_64 : decode cX8_program 64 = .ok (.ireturn, 1) := by decide +kernel
theorem dX8_isIn_0 : decode cX8_isIn 0 = .ok (.iload_n 0, 1) := by decide +kernel
theorem dX8_isIn_1 : decode cX8_isIn 1 = .ok (.iload_n 1, 1) := by decide +kernel
theorem dX8_isIn_2 : decode cX8_isIn 2 = .ok (.if_icmp .lt 12, 3) := by decide +kernel
theorem dX8_isIn_5 : decode cX8_isIn 5 = .ok (.iload_n 0, 1) := by decide +kernel
theorem dX8_isIn_6 : decode cX8_isIn 6 = .ok (.iload_n 2, 1) := by decide +kernel
theorem dX8_isIn_7 : decode cX8_isIn 7 = .ok (.if_icmp .gt 7, 3) := by decide +kernel
theorem dX8_isIn_10 : decode cX8_isIn 10 = .ok (.iconst 1, 1) := by decide +kernel
theorem dX8_isIn_11 : decode cX8_isIn 11 = .ok (.goto 4, 3) := by decide +kernel
theorem dX8_isIn_14 : decode cX8_isIn 14 = .ok (.iconst 0, 1) := by decide +kernel
theorem dX8_isIn_15 : decode cX8_isIn 15 = .ok (.ireturn, 1) := by decide +kernel
theorem dX8_isRow_0 : decode cX8_isRow 0 = .ok (.iload_n 3, 1) := by decide +kernel
theorem dX8_isRow_1 : decode cX8_isRow 1 = .ok (.iconst 0, 1) := by decide +kernel
theorem dX8_isRow_2 : decode cX8_isRow 2 = .ok (.aload_n 0, 1) := by decide +kernel
theorem dX8_isRow_3 : decode cX8_isRow 3 = .ok (.getfield 7, 3) := by decide +kernel
theorem dX8_isRow_6 : decode cX8_isRow 6 = .ok (.iload_n 1, 1) := by decide +kernel
theorem dX8_isRow_7 : decode cX8_isRow 7 = .ok (.iaload, 1) := by decide +kernel
theorem dX8_isRow_8 : decode cX8_isRow 8 = .ok (.iconst 1, 1) := by decide +kernel
theorem dX8_isRow_9 : decode cX8_isRow 9 = .ok (.isub, 1) := by decide +kernel
theorem dX8_isRow_10 : decode cX8_isRow 10 = .ok (.invokestatic 97, 3) := by decide +kernel
theorem dX8_isRow_13 : decode cX8_isRow 13 = .ok (.istore 5, 2) := by decide +kernel
theorem dX8_isRow_15 : decode cX8_isRow 15 = .ok (.iload_n 2, 1) := by decide +kernel
theorem dX8_isRow_16 : decode cX8_isRow 16 = .ok (.tableswitch 142 0 13 #[72, 142, 142, 142, 142, 142, 142, 142, 95, 117, 126, 134, 134, 72], 72) := by decide +kernel
theorem dX8_isRow_88 : decode cX8_isRow 88 = .ok (.iload 5, 2) := by decide +kernel
theorem dX8_isRow_90 : decode cX8_isRow 90 = .ok (.ifCond .eq 19, 3) := by decide +kernel
theorem dX8_isRow_93 : decode cX8_isRow 93 = .ok (.iload 4, 2) := by decide +kernel
theorem dX8_isRow_95 : decode cX8_isRow 95 = .ok (.bipush (-128), 2) := by decide +kernel
theorem dX8_isRow_97 : decode cX8_isRow 97 = .ok (.bipush 127, 2) := by decide +kernel
theorem dX8_isRow_99 : decode cX8_isRow 99 = .ok (.invokestatic 97, 3) := by decide +kernel
theorem dX8_isRow_102 : decode cX8_isRow 102 = .ok (.ifCond .eq 7, 3) := by decide +kernel
theorem dX8_isRow_105 : decode cX8_isRow 105 = .ok (.iconst 1, 1) := by decide +kernel
theorem dX8_isRow_106 : decode cX8_isRow 106 = .ok (.goto 4, 3) := by decide +kernel
theorem dX8_isRow_109 : decode cX8_isRow 109 = .ok (.iconst 0, 1) := by decide +kernel
theorem dX8_isRow_110 : decode cX8_isRow 110 = .ok (.ireturn, 1) := by decide +kernel
theorem dX8_isRow_111 : decode cX8_isRow 111 = .ok (.iload 5, 2) := by decide +kernel
theorem dX8_isRow_113 : decode cX8_isRow 113 = .ok (.ifCond .eq 18, 3) := by decide +kernel
theorem dX8_isRow_116 : decode cX8_isRow 116 = .ok (.iload 4, 2) := by decide +kernel
theorem dX8_isRow_118 : decode cX8_isRow 118 = .ok (.iconst 1, 1) := by decide +kernel
theorem dX8_isRow_119 : decode cX8_isRow 119 = .ok (.bipush 61, 2) := by decide +kernel
theorem dX8_isRow_121 : decode cX8_isRow 121 = .ok (.invokestatic 97, 3) := by decide +kernel
theorem dX8_isRow_124 : decode cX8_isRow 124 = .ok (.ifCond .eq 7, 3) := by decide +kernel
theorem dX8_isRow_127 : decode cX8_isRow 127 = .ok (.iconst 1, 1) := by decide +kernel
theorem dX8_isRow_128 : decode cX8_isRow 128 = .ok (.goto 4, 3) := by decide +kernel
theorem dX8_isRow_131 : decode cX8_isRow 131 = .ok (.iconst 0, 1) := by decide +kernel
theorem dX8_isRow_132 : decode cX8_isRow 132 = .ok (.ireturn, 1) := by decide +kernel
theorem dX8_isRow_133 : decode cX8_isRow 133 = .ok (.iload 4, 2) := by decide +kernel
theorem dX8_isRow_135 : decode cX8_isRow 135 = .ok (.iconst 1, 1) := by decide +kernel
theorem dX8_isRow_136 : decode cX8_isRow 136 = .ok (.bipush 61, 2) := by decide +kernel
theorem dX8_isRow_138 : decode cX8_isRow 138 = .ok (.invokestatic 97, 3) := by decide +kernel
theorem dX8_isRow_141 : decode cX8_isRow 141 = .ok (.ireturn, 1) := by decide +kernel
theorem dX8_isRow_142 : decode cX8_isRow 142 = .ok (.iload_n 3, 1) := by decide +kernel
theorem dX8_isRow_143 : decode cX8_isRow 143 = .ok (.iconst 1, 1) := by decide +kernel
theorem dX8_isRow_144 : decode cX8_isRow 144 = .ok (.bipush 12, 2) := by decide +kernel
theorem dX8_isRow_146 : decode cX8_isRow 146 = .ok (.invokestatic 97, 3) := by decide +kernel
theorem dX8_isRow_149 : decode cX8_isRow 149 = .ok (.ireturn, 1) := by decide +kernel
theorem dX8_isRow_150 : decode cX8_isRow 150 = .ok (.iload_n 3, 1) := by decide +kernel
theorem dX8_isRow_151 : decode cX8_isRow 151 = .ok (.iconst 0, 1) := by decide +kernel
theorem dX8_isRow_152 : decode cX8_isRow 152 = .ok (.bipush 127, 2) := by decide +kernel
theorem dX8_isRow_154 : decode cX8_isRow 154 = .ok (.invokestatic 97, 3) := by decide +kernel
theorem dX8_isRow_157 : decode cX8_isRow 157 = .ok (.ireturn, 1) := by decide +kernel
theorem dX8_isRow_158 : decode cX8_isRow 158 = .ok (.iload_n 2, 1) := by decide +kernel
theorem dX8_isRow_159 : decode cX8_isRow 159 = .ok (.ifCond .le 35, 3) := by decide +kernel
theorem dX8_isRow_162 : decode cX8_isRow 162 = .ok (.iload_n 2, 1) := by decide +kernel
theorem dX8_isRow_163 : decode cX8_isRow 163 = .ok (.bipush 8, 2) := by decide +kernel
theorem dX8_isRow_165 : decode cX8_isRow 165 = .ok (.if_icmp .ge 29, 3) := by decide +kernel
theorem dX8_isRow_168 : decode cX8_isRow 168 = .ok (.iload 5, 2) := by decide +kernel
theorem dX8_isRow_170 : decode cX8_isRow 170 = .ok (.ifCond .eq 24, 3) := by decide +kernel
theorem dX8_isRow_173 : decode cX8_isRow 173 = .ok (.iload 4, 2) := by decide +kernel
theorem dX8_isRow_175 : decode cX8_isRow 175 = .ok (.iconst 0, 1) := by decide +kernel
theorem dX8_isRow_176 : decode cX8_isRow 176 = .ok (.aload_n 0, 1) := by decide +kernel
theorem dX8_isRow_177 : decode cX8_isRow 177 = .ok (.getfield 7, 3) := by decide +kernel
theorem dX8_isRow_180 : decode cX8_isRow 180 = .ok (.iload_n 1, 1) := by decide +kernel
theorem dX8_isRow_181 : decode cX8_isRow 181 = .ok (.iaload, 1) := by decide +kernel
theorem dX8_isRow_182 : decode cX8_isRow 182 = .ok (.iconst 1, 1) := by decide +kernel
theorem dX8_isRow_183 : decode cX8_isRow 183 = .ok (.isub, 1) := by decide +kernel
theorem dX8_isRow_184 : decode cX8_isRow 184 = .ok (.invokestatic 97, 3) := by decide +kernel
theorem dX8_isRow_187 : decode cX8_isRow 187 = .ok (.ifCond .eq 7, 3) := by decide +kernel
theorem dX8_isRow_190 : decode cX8_isRow 190 = .ok (.iconst 1, 1) := by decide +kernel
theorem dX8_isRow_191 : decode cX8_isRow 191 = .ok (.goto 4, 3) := by decide +kernel
theorem dX8_isRow_194 : decode cX8_isRow 194 = .ok (.iconst 0, 1) := by decide +kernel
theorem dX8_isRow_195 : decode cX8_isRow 195 = .ok (.ireturn, 1) := by decide +kernel
theorem dX8_code_0 : decode cX8_code 0 = .ok (.aload_n 0, 1) := by decide +kernel
theorem dX8_code_1 : decode cX8_code 1 = .ok (.iconst 0, 1) := by decide +kernel
theorem dX8_code_2 : decode cX8_code 2 = .ok (.putfield 87, 3) := by decide +kernel
theorem dX8_code_5 : decode cX8_code 5 = .ok (.aload_n 0, 1) := by decide +kernel
theorem dX8_code_6 : decode cX8_code 6 = .ok (.iload_n 1, 1) := by decide +kernel
theorem dX8_code_7 : decode cX8_code 7 = .ok (.invokevirtual 101, 3) := by decide +kernel
theorem dX8_code_10 : decode cX8_code 10 = .ok (.ifCond .ne 6, 3) := by decide +kernel
theorem dX8_code_13 : decode cX8_code 13 = .ok (.bipush (-2), 2) := by decide +kernel
theorem dX8_code_15 : decode cX8_code 15 = .ok (.ireturn, 1) := by decide +kernel
theorem dX8_code_16 : decode cX8_code 16 = .ok (.aload_n 0, 1) := by decide +kernel
theorem dX8_code_17 : decode cX8_code 17 = .ok (.iload_n 1, 1) := by decide +kernel
theorem dX8_code_18 : decode cX8_code 18 = .ok (.iload_n 2, 1) := by decide +kernel
theorem dX8_code_19 : decode cX8_code 19 = .ok (.iload_n 3, 1) := by decide +kernel
theorem dX8_code_20 : decode cX8_code 20 = .ok (.iload 4, 2) := by decide +kernel
theorem dX8_code_22 : decode cX8_code 22 = .ok (.invokevirtual 105, 3) := by decide +kernel
theorem dX8_code_25 : decode cX8_code 25 = .ok (.ifCond .ne 6, 3) := by decide +kernel
theorem dX8_code_28 : decode cX8_code 28 = .ok (.bipush (-4), 2) := by decide +kernel
theorem dX8_code_30 : decode cX8_code 30 = .ok (.ireturn, 1) := by decide +kernel
theorem dX8_code_31 : decode cX8_code 31 = .ok (.aload_n 0, 1) := by decide +kernel
theorem dX8_code_32 : decode cX8_code 32 = .ok (.getfield 13, 3) := by decide +kernel
theorem dX8_code_35 : decode cX8_code 35 = .ok (.iload_n 1, 1) := by decide +kernel
theorem dX8_code_36 : decode cX8_code 36 = .ok (.iaload, 1) := by decide +kernel
theorem dX8_code_37 : decode cX8_code 37 = .ok (.bipush 60, 2) := by decide +kernel
theorem dX8_code_39 : decode cX8_code 39 = .ok (.if_icmp .ne 5, 3) := by decide +kernel
theorem dX8_code_42 : decode cX8_code 42 = .ok (.iconst (-1), 1) := by decide +kernel
theorem dX8_code_43 : decode cX8_code 43 = .ok (.ireturn, 1) := by decide +kernel
theorem dX8_code_44 : decode cX8_code 44 = .ok (.aload_n 0, 1) := by decide +kernel
theorem dX8_code_45 : decode cX8_code 45 = .ok (.getfield 13, 3) := by decide +kernel
theorem dX8_code_48 : decode cX8_code 48 = .ok (.iload_n 1, 1) := by decide +kernel
theorem dX8_code_49 : decode cX8_code 49 = .ok (.dup2, 1) := by decide +kernel
theorem dX8_code_50 : decode cX8_code 50 = .ok (.iaload, 1) := by decide +kernel
theorem dX8_code_51 : decode cX8_code 51 = .ok (.iconst 1, 1) := by decide +kernel
theorem dX8_code_52 : decode cX8_code 52 = .ok (.iadd, 1) := by decide +kernel
theorem dX8_code_53 : decode cX8_code 53 = .ok (.iastore, 1) := by decide +kernel
theorem dX8_code_54 : decode cX8_code 54 = .ok (.bipush 60, 2) := by decide +kernel
theorem dX8_code_56 : decode cX8_code 56 = .ok (.iload_n 1, 1) := by decide +kernel
theorem dX8_code_57 : decode cX8_code 57 = .ok (.imul, 1) := by decide +kernel
theorem dX8_code_58 : decode cX8_code 58 = .ok (.aload_n 0, 1) := by decide +kernel
theorem dX8_code_59 : decode cX8_code 59 = .ok (.getfield 13, 3) := by decide +kernel
theorem dX8_code_62 : decode cX8_code 62 = .ok (.iload_n 1, 1) := by decide +kernel
theorem dX8_code_63 : decode cX8_code 63 = .ok (.iaload, 1) := by decide +kernel
theorem dX8_code_64 : decode cX8_code 64 = .ok (.iadd, 1) := by decide +kernel
theorem dX8_code_65 : decode cX8_code 65 = .ok (.istore 5, 2) := by decide +kernel
theorem dX8_code_67 : decode cX8_code 67 = .ok (.aload_n 0, 1) := by decide +kernel
theorem dX8_code_68 : decode cX8_code 68 = .ok (.getfield 16, 3) := by decide +kernel
theorem dX8_code_71 : decode cX8_code 71 = .ok (.iload 5, 2) := by decide +kernel
theorem dX8_code_73 : decode cX8_code 73 = .ok (.iload_n 2, 1) := by decide +kernel
theorem dX8_code_74 : decode cX8_code 74 = .ok (.iastore, 1) := by decide +kernel
theorem dX8_code_75 : decode cX8_code 75 = .ok (.aload_n 0, 1) := by decide +kernel
theorem dX8_code_76 : decode cX8_code 76 = .ok (.getfield 19, 3) := by decide +kernel
theorem dX8_code_79 : decode cX8_code 79 = .ok (.iload 5, 2) := by decide +kernel
theorem dX8_code_81 : decode cX8_code 81 = .ok (.iload_n 3, 1) := by decide +kernel
theorem dX8_code_82 : decode cX8_code 82 = .ok (.iastore, 1) := by decide +kernel
theorem dX8_code_83 : decode cX8_code 83 = .ok (.aload_n 0, 1) := by decide +kernel
theorem dX8_code_84 : decode cX8_code 84 = .ok (.getfield 22, 3) := by decide +kernel
theorem dX8_code_87 : decode cX8_code 87 = .ok (.iload 5, 2) := by decide +kernel
theorem dX8_code_89 : decode cX8_code 89 = .ok (.iload 4, 2) := by decide +kernel
theorem dX8_code_91 : decode cX8_code 91 = .ok (.iastore, 1) := by decide +kernel
theorem dX8_code_92 : decode cX8_code 92 = .ok (.aload_n 0, 1) := by decide +kernel
theorem dX8_code_93 : decode cX8_code 93 = .ok (.getfield 13, 3) := by decide +kernel
theorem dX8_code_96 : decode cX8_code 96 = .ok (.iload_n 1, 1) := by decide +kernel
theorem dX8_code_97 : decode cX8_code 97 = .ok (.iaload, 1) := by decide +kernel
theorem dX8_code_98 : decode cX8_code 98 = .ok (.ireturn, 1) := by decide +kernel
theorem dX8_unit_0 : decode cX8_unit 0 = .ok (.aload_n 0, 1) := by decide +kernel
theorem dX8_unit_1 : decode cX8_unit 1 = .ok (.iconst 0, 1) := by decide +kernel
theorem dX8_unit_2 : decode cX8_unit 2 = .ok (.putfield 87, 3) := by decide +kernel
theorem dX8_unit_5 : decode cX8_unit 5 = .ok (.aload_n 0, 1) := by decide +kernel
theorem dX8_unit_6 : decode cX8_unit 6 = .ok (.getfield 94, 3) := by decide +kernel
theorem dX8_unit_9 : decode cX8_unit 9 = .ok (.bipush 8, 2) := by decide +kernel
theorem dX8_unit_11 : decode cX8_unit 11 = .ok (.if_icmp .ne 5, 3) := by decide +kernel
theorem dX8_unit_14 : decode cX8_unit 14 = .ok (.iconst (-1), 1) := by decide +kernel
theorem dX8_unit_15 : decode cX8_unit 15 = .ok (.ireturn, 1) := by decide +kernel
theorem dX8_unit_16 : decode cX8_unit 16 = .ok (.aload_n 0, 1) := by decide +kernel
theorem dX8_unit_17 : decode cX8_unit 17 = .ok (.dup, 1) := by decide +kernel
theorem dX8_unit_18 : decode cX8_unit 18 = .ok (.getfield 94, 3) := by decide +kernel
theorem dX8_unit_21 : decode cX8_unit 21 = .ok (.iconst 1, 1) := by decide +kernel
theorem dX8_unit_22 : decode cX8_unit 22 = .ok (.iadd, 1) := by decide +kernel
theorem dX8_unit_23 : decode cX8_unit 23 = .ok (.putfield 94, 3) := by decide +kernel
theorem dX8_unit_26 : decode cX8_unit 26 = .ok (.aload_n 0, 1) := by decide +kernel
theorem dX8_unit_27 : decode cX8_unit 27 = .ok (.getfield 94, 3) := by decide +kernel
theorem dX8_unit_30 : decode cX8_unit 30 = .ok (.ireturn, 1) := by decide +kernel
theorem dX8_latestOf_0 : decode cX8_latestOf 0 = .ok (.aload_n 0, 1) := by decide +kernel
theorem dX8_latestOf_1 : decode cX8_latestOf 1 = .ok (.getfield 53, 3) := by decide +kernel
theorem dX8_latestOf_4 : decode cX8_latestOf 4 = .ok (.bipush 13, 2) := by decide +kernel
theorem dX8_latestOf_6 : decode cX8_latestOf 6 = .ok (.iload_n 1, 1) := by decide +kernel
theorem dX8_latestOf_7 : decode cX8_latestOf 7 = .ok (.imul, 1) := by decide +kernel
theorem dX8_latestOf_8 : decode cX8_latestOf 8 = .ok (.iload_n 2, 1) := by decide +kernel
theorem dX8_latestOf_9 : decode cX8_latestOf 9 = .ok (.iadd, 1) := by decide +kernel
theorem dX8_latestOf_10 : decode cX8_latestOf 10 = .ok (.iaload, 1) := by decide +kernel
theorem dX8_latestOf_11 : decode cX8_latestOf 11 = .ok (.ireturn, 1) := by decide +kernel
theorem dX8_made_0 : decode cX8_made 0 = .ok (.aload_n 0, 1) := by decide +kernel
theorem dX8_made_1 : decode cX8_made 1 = .ok (.iload_n 1, 1) := by decide +kernel
theorem dX8_made_2 : decode cX8_made 2 = .ok (.iload_n 2, 1) := by decide +kernel
theorem dX8_made_3 : decode cX8_made 3 = .ok (.invokevirtual 109, 3) := by decide +kernel
theorem dX8_made_6 : decode cX8_made 6 = .ok (.istore_n 3, 1) := by decide +kernel
theorem dX8_made_7 : decode cX8_made 7 = .ok (.iload_n 3, 1) := by decide +kernel
theorem dX8_made_8 : decode cX8_made 8 = .ok (.ifCond .le 20, 3) := by decide +kernel
theorem dX8_made_11 : decode cX8_made 11 = .ok (.aload_n 0, 1) := by decide +kernel
theorem dX8_made_12 : decode cX8_made 12 = .ok (.getfield 35, 3) := by decide +kernel
theorem dX8_made_15 : decode cX8_made 15 = .ok (.iload_n 3, 1) := by decide +kernel
theorem dX8_made_16 : decode cX8_made 16 = .ok (.iaload, 1) := by decide +kernel
theorem dX8_made_17 : decode cX8_made 17 = .ok (.aload_n 0, 1) := by decide +kernel
theorem dX8_made_18 : decode cX8_made 18 = .ok (.getfield 13, 3) := by decide +kernel
theorem dX8_made_21 : decode cX8_made 21 = .ok (.iload_n 2, 1) := by decide +kernel
theorem dX8_made_22 : decode cX8_made 22 = .ok (.iaload, 1) := by decide +kernel
theorem dX8_made_23 : decode cX8_made 23 = .ok (.if_icmp .ne 5, 3) := by decide +kernel
theorem dX8_made_26 : decode cX8_made 26 = .ok (.iload_n 3, 1) := by decide +kernel
theorem dX8_made_27 : decode cX8_made 27 = .ok (.ireturn, 1) := by decide +kernel
theorem dX8_made_28 : decode cX8_made 28 = .ok (.aload_n 0, 1) := by decide +kernel
theorem dX8_made_29 : decode cX8_made 29 = .ok (.getfield 113, 3) := by decide +kernel
theorem dX8_made_32 : decode cX8_made 32 = .ok (.bipush 40, 2) := by decide +kernel
theorem dX8_made_34 : decode cX8_made 34 = .ok (.if_icmp .ne 5, 3) := by decide +kernel
theorem dX8_made_37 : decode cX8_made 37 = .ok (.iconst (-1), 1) := by decide +kernel
theorem dX8_made_38 : decode cX8_made 38 = .ok (.ireturn, 1) := by decide +kernel
theorem dX8_made_39 : decode cX8_made 39 = .ok (.aload_n 0, 1) := by decide +kernel
theorem dX8_made_40 : decode cX8_made 40 = .ok (.dup, 1) := by decide +kernel
theorem dX8_made_41 : decode cX8_made 41 = .ok (.getfield 113, 3) := by decide +kernel
theorem dX8_made_44 : decode cX8_made 44 = .ok (.iconst 1, 1) := by decide +kernel
theorem dX8_made_45 : decode cX8_made 45 = .ok (.iadd, 1) := by decide +kernel
theorem dX8_made_46 : decode cX8_made 46 = .ok (.putfield 113, 3) := by decide +kernel
theorem dX8_made_49 : decode cX8_made 49 = .ok (.aload_n 0, 1) := by decide +kernel
theorem dX8_made_50 : decode cX8_made 50 = .ok (.getfield 29, 3) := by decide +kernel
theorem dX8_made_53 : decode cX8_made 53 = .ok (.aload_n 0, 1) := by decide +kernel
theorem dX8_made_54 : decode cX8_made 54 = .ok (.getfield 113, 3) := by decide +kernel
theorem dX8_made_57 : decode cX8_made 57 = .ok (.iload_n 1, 1) := by decide +kernel
theorem dX8_made_58 : decode cX8_made 58 = .ok (.iastore, 1) := by decide +kernel
theorem dX8_made_59 : decode cX8_made 59 = .ok (.aload_n 0, 1) := by decide +kernel
theorem dX8_made_60 : decode cX8_made 60 = .ok (.getfield 32, 3) := by decide +kernel
theorem dX8_made_63 : decode cX8_made 63 = .ok (.aload_n 0, 1) := by decide +kernel
theorem dX8_made_64 : decode cX8_made 64 = .ok (.getfield 113, 3) := by decide +kernel
theorem dX8_made_67 : decode cX8_made 67 = .ok (.iload_n 2, 1) := by decide +kernel
theorem dX8_made_68 : decode cX8_made 68 = .ok (.iastore, 1) := by decide +kernel
theorem dX8_made_69 : decode cX8_made 69 = .ok (.aload_n 0, 1) := by decide +kernel
theorem dX8_made_70 : decode cX8_made 70 = .ok (.getfield 35, 3) := by decide +kernel
theorem dX8_made_73 : decode cX8_made 73 = .ok (.aload_n 0, 1) := by decide +kernel
theorem dX8_made_74 : decode cX8_made 74 = .ok (.getfield 113, 3) := by decide +kernel
theorem dX8_made_77 : decode cX8_made 77 = .ok (.aload_n 0, 1) := by decide +kernel
theorem dX8_made_78 : decode cX8_made 78 = .ok (.getfield 13, 3) := by decide +kernel
theorem dX8_made_81 : decode cX8_made 81 = .ok (.iload_n 2, 1) := by decide +kernel
theorem dX8_made_82 : decode cX8_made 82 = .ok (.iaload, 1) := by decide +kernel
theorem dX8_made_83 : decode cX8_made 83 = .ok (.iastore, 1) := by decide +kernel
theorem dX8_made_84 : decode cX8_made 84 = .ok (.iload_n 3, 1) := by decide +kernel
theorem dX8_made_85 : decode cX8_made 85 = .ok (.ifCond .le 17, 3) := by decide +kernel
theorem dX8_made_88 : decode cX8_made 88 = .ok (.aload_n 0, 1) := by decide +kernel
theorem dX8_made_89 : decode cX8_made 89 = .ok (.getfield 38, 3) := by decide +kernel
theorem dX8_made_92 : decode cX8_made 92 = .ok (.iload_n 3, 1) := by decide +kernel
theorem dX8_made_93 : decode cX8_made 93 = .ok (.iconst 1, 1) := by decide +kernel
theorem dX8_made_94 : decode cX8_made 94 = .ok (.bastore, 1) := by decide +kernel
theorem dX8_made_95 : decode cX8_made 95 = .ok (.aload_n 0, 1) := by decide +kernel
theorem dX8_made_96 : decode cX8_made 96 = .ok (.getfield 41, 3) := by decide +kernel
theorem dX8_made_99 : decode cX8_made 99 = .ok (.iload_n 3, 1) := by decide +kernel
theorem dX8_made_100 : decode cX8_made 100 = .ok (.iconst 0, 1) := by decide +kernel
theorem dX8_made_101 : decode cX8_made 101 = .ok (.bastore, 1) := by decide +kernel
theorem dX8_made_102 : decode cX8_made 102 = .ok (.aload_n 0, 1) := by decide +kernel
theorem dX8_made_103 : decode cX8_made 103 = .ok (.getfield 53, 3) := by decide +kernel
theorem dX8_made_106 : decode cX8_made 106 = .ok (.bipush 13, 2) := by decide +kernel
theorem dX8_made_108 : decode cX8_made 108 = .ok (.iload_n 1, 1) := by decide +kernel
theorem dX8_made_109 : decode cX8_made 109 = .ok (.imul, 1) := by decide +kernel
theorem dX8_made_110 : decode cX8_made 110 = .ok (.iload_n 2, 1) := by decide +kernel
theorem dX8_made_111 : decode cX8_made 111 = .ok (.iadd, 1) := by decide +kernel
theorem dX8_made_112 : decode cX8_made 112 = .ok (.aload_n 0, 1) := by decide +kernel
theorem dX8_made_113 : decode cX8_made 113 = .ok (.getfield 113, 3) := by decide +kernel
theorem dX8_made_116 : decode cX8_made 116 = .ok (.iastore, 1) := by decide +kernel
theorem dX8_made_117 : decode cX8_made 117 = .ok (.aload_n 0, 1) := by decide +kernel
theorem dX8_made_118 : decode cX8_made 118 = .ok (.getfield 113, 3) := by decide +kernel
theorem dX8_made_121 : decode cX8_made 121 = .ok (.ireturn, 1) := by decide +kernel
theorem dX8_make_0 : decode cX8_make 0 = .ok (.aload_n 0, 1) := by decide +kernel
theorem dX8_make_1 : decode cX8_make 1 = .ok (.iconst 0, 1) := by decide +kernel
theorem dX8_make_2 : decode cX8_make 2 = .ok (.putfield 87, 3) := by decide +kernel
theorem dX8_make_5 : decode cX8_make 5 = .ok (.aload_n 0, 1) := by decide +kernel
theorem dX8_make_6 : decode cX8_make 6 = .ok (.iload_n 1, 1) := by decide +kernel
theorem dX8_make_7 : decode cX8_make 7 = .ok (.invokevirtual 116, 3) := by decide +kernel
theorem dX8_make_10 : decode cX8_make 10 = .ok (.ifCond .eq 11, 3) := by decide +kernel
theorem dX8_make_13 : decode cX8_make 13 = .ok (.aload_n 0, 1) := by decide +kernel
theorem dX8_make_14 : decode cX8_make 14 = .ok (.iload_n 2, 1) := by decide +kernel
theorem dX8_make_15 : decode cX8_make 15 = .ok (.invokevirtual 101, 3) := by decide +kernel
theorem dX8_make_18 : decode cX8_make 18 = .ok (.ifCond .ne 6, 3) := by decide +kernel
theorem dX8_make_21 : decode cX8_make 21 = .ok (.bipush (-2), 2) := by decide +kernel
theorem dX8_make_23 : decode cX8_make 23 = .ok (.ireturn, 1) := by decide +kernel
theorem dX8_make_24 : decode cX8_make 24 = .ok (.aload_n 0, 1) := by decide +kernel
theorem dX8_make_25 : decode cX8_make 25 = .ok (.getfield 47, 3) := by decide +kernel
theorem dX8_make_28 : decode cX8_make 28 = .ok (.iload_n 1, 1) := by decide +kernel
theorem dX8_make_29 : decode cX8_make 29 = .ok (.baload, 1) := by decide +kernel
theorem dX8_make_30 : decode cX8_make 30 = .ok (.ifCond .eq 8, 3) := by decide +kernel
theorem dX8_make_33 : decode cX8_make 33 = .ok (.bipush (-5), 2) := by decide +kernel
theorem dX8_make_35 : decode cX8_make 35 = .ok (.goto 9, 3) := by decide +kernel
theorem dX8_make_38 : decode cX8_make 38 = .ok (.aload_n 0, 1) := by decide +kernel
theorem dX8_make_39 : decode cX8_make 39 = .ok (.iload_n 1, 1) := by decide +kernel
theorem dX8_make_40 : decode cX8_make 40 = .ok (.iload_n 2, 1) := by decide +kernel
theorem dX8_make_41 : decode cX8_make 41 = .ok (.invokevirtual 119, 3) := by decide +kernel
theorem dX8_make_44 : decode cX8_make 44 = .ok (.ireturn, 1) := by decide +kernel
theorem dX8_cancel_0 : decode cX8_cancel 0 = .ok (.aload_n 0, 1) := by decide +kernel
theorem dX8_cancel_1 : decode cX8_cancel 1 = .ok (.iconst 0, 1) := by decide +kernel
theorem dX8_cancel_2 : decode cX8_cancel 2 = .ok (.putfield 87, 3) := by decide +kernel
theorem dX8_cancel_5 : decode cX8_cancel 5 = .ok (.aload_n 0, 1) := by decide +kernel
theorem dX8_cancel_6 : decode cX8_cancel 6 = .ok (.iload_n 1, 1) := by decide +kernel
theorem dX8_cancel_7 : decode cX8_cancel 7 = .ok (.invokevirtual 116, 3) := by decide +kernel
theorem dX8_cancel_10 : decode cX8_cancel 10 = .ok (.ifCond .eq 11, 3) := by decide +kernel
theorem dX8_cancel_13 : decode cX8_cancel 13 = .ok (.aload_n 0, 1) := by decide +kernel
theorem dX8_cancel_14 : decode cX8_cancel 14 = .ok (.iload_n 2, 1) := by decide +kernel
theorem dX8_cancel_15 : decode cX8_cancel 15 = .ok (.invokevirtual 101, 3) := by decide +kernel
theorem dX8_cancel_18 : decode cX8_cancel 18 = .ok (.ifCond .ne 6, 3) := by decide +kernel
theorem dX8_cancel_21 : decode cX8_cancel 21 = .ok (.bipush (-2), 2) := by decide +kernel
theorem dX8_cancel_23 : decode cX8_cancel 23 = .ok (.ireturn, 1) := by decide +kernel
theorem dX8_cancel_24 : decode cX8_cancel 24 = .ok (.aload_n 0, 1) := by decide +kernel
theorem dX8_cancel_25 : decode cX8_cancel 25 = .ok (.getfield 47, 3) := by decide +kernel
theorem dX8_cancel_28 : decode cX8_cancel 28 = .ok (.iload_n 1, 1) := by decide +kernel
theorem dX8_cancel_29 : decode cX8_cancel 29 = .ok (.baload, 1) := by decide +kernel
theorem dX8_cancel_30 : decode cX8_cancel 30 = .ok (.ifCond .eq 6, 3) := by decide +kernel
theorem dX8_cancel_33 : decode cX8_cancel 33 = .ok (.bipush (-5), 2) := by decide +kernel
theorem dX8_cancel_35 : decode cX8_cancel 35 = .ok (.ireturn, 1) := by decide +kernel
theorem dX8_cancel_36 : decode cX8_cancel 36 = .ok (.aload_n 0, 1) := by decide +kernel
theorem dX8_cancel_37 : decode cX8_cancel 37 = .ok (.iload_n 1, 1) := by decide +kernel
theorem dX8_cancel_38 : decode cX8_cancel 38 = .ok (.iload_n 2, 1) := by decide +kernel
theorem dX8_cancel_39 : decode cX8_cancel 39 = .ok (.invokevirtual 109, 3) := by decide +kernel
theorem dX8_cancel_42 : decode cX8_cancel 42 = .ok (.istore_n 3, 1) := by decide +kernel
theorem dX8_cancel_43 : decode cX8_cancel 43 = .ok (.iload_n 3, 1) := by decide +kernel
theorem dX8_cancel_44 : decode cX8_cancel 44 = .ok (.ifCond .eq 12, 3) := by decide +kernel
theorem dX8_cancel_47 : decode cX8_cancel 47 = .ok (.aload_n 0, 1) := by decide +kernel
theorem dX8_cancel_48 : decode cX8_cancel 48 = .ok (.getfield 41, 3) := by decide +kernel
theorem dX8_cancel_51 : decode cX8_cancel 51 = .ok (.iload_n 3, 1) := by decide +kernel
theorem dX8_cancel_52 : decode cX8_cancel 52 = .ok (.baload, 1) := by decide +kernel
theorem dX8_cancel_53 : decode cX8_cancel 53 = .ok (.ifCond .ne 5, 3) := by decide +kernel
theorem dX8_cancel_56 : decode cX8_cancel 56 = .ok (.iconst 0, 1) := by decide +kernel
theorem dX8_cancel_57 : decode cX8_cancel 57 = .ok (.ireturn, 1) := by decide +kernel
theorem dX8_cancel_58 : decode cX8_cancel 58 = .ok (.aload_n 0, 1) := by decide +kernel
theorem dX8_cancel_59 : decode cX8_cancel 59 = .ok (.getfield 41, 3) := by decide +kernel
theorem dX8_cancel_62 : decode cX8_cancel 62 = .ok (.iload_n 3, 1) := by decide +kernel
theorem dX8_cancel_63 : decode cX8_cancel 63 = .ok (.iconst 0, 1) := by decide +kernel
theorem dX8_cancel_64 : decode cX8_cancel 64 = .ok (.bastore, 1) := by decide +kernel
theorem dX8_cancel_65 : decode cX8_cancel 65 = .ok (.iconst 1, 1) := by decide +kernel
theorem dX8_cancel_66 : decode cX8_cancel 66 = .ok (.ireturn, 1) := by decide +kernel
theorem dX8_shares_0 : decode cX8_shares 0 = .ok (.aload_n 0, 1) := by decide +kernel
theorem dX8_shares_1 : decode cX8_shares 1 = .ok (.iconst 0, 1) := by decide +kernel
theorem dX8_shares_2 : decode cX8_shares 2 = .ok (.putfield 87, 3) := by decide +kernel
theorem dX8_shares_5 : decode cX8_shares 5 = .ok (.iconst 0, 1) := by decide +kernel
theorem dX8_shares_6 : decode cX8_shares 6 = .ok (.istore_n 3, 1) := by decide +kernel
theorem dX8_shares_7 : decode cX8_shares 7 = .ok (.iconst 1, 1) := by decide +kernel
theorem dX8_shares_8 : decode cX8_shares 8 = .ok (.istore 4, 2) := by decide +kernel
theorem dX8_shares_10 : decode cX8_shares 10 = .ok (.iload 4, 2) := by decide +kernel
theorem dX8_shares_12 : decode cX8_shares 12 = .ok (.aload_n 0, 1) := by decide +kernel
theorem dX8_shares_13 : decode cX8_shares 13 = .ok (.getfield 113, 3) := by decide +kernel
theorem dX8_shares_16 : decode cX8_shares 16 = .ok (.if_icmp .gt 30, 3) := by decide +kernel
theorem dX8_shares_19 : decode cX8_shares 19 = .ok (.iload_n 3, 1) := by decide +kernel
theorem dX8_shares_20 : decode cX8_shares 20 = .ok (.ifCond .ne 14, 3) := by decide +kernel
theorem dX8_shares_23 : decode cX8_shares 23 = .ok (.aload_n 0, 1) := by decide +kernel
theorem dX8_shares_24 : decode cX8_shares 24 = .ok (.getfield 29, 3) := by decide +kernel
theorem dX8_shares_27 : decode cX8_shares 27 = .ok (.iload 4, 2) := by decide +kernel
theorem dX8_shares_29 : decode cX8_shares 29 = .ok (.iaload, 1) := by decide +kernel
theorem dX8_shares_30 : decode cX8_shares 30 = .ok (.iload_n 1, 1) := by decide +kernel
theorem dX8_shares_31 : decode cX8_shares 31 = .ok (.if_icmp .ne 7, 3) := by decide +kernel
theorem dX8_shares_34 : decode cX8_shares 34 = .ok (.iconst 1, 1) := by decide +kernel
theorem dX8_shares_35 : decode cX8_shares 35 = .ok (.goto 4, 3) := by decide +kernel
theorem dX8_shares_38 : decode cX8_shares 38 = .ok (.iconst 0, 1) := by decide +kernel
theorem dX8_shares_39 : decode cX8_shares 39 = .ok (.istore_n 3, 1) := by decide +kernel
theorem dX8_shares_40 : decode cX8_shares 40 = .ok (.iinc 4 1, 3) := by decide +kernel
theorem dX8_shares_43 : decode cX8_shares 43 = .ok (.goto (-33), 3) := by decide +kernel
theorem dX8_shares_46 : decode cX8_shares 46 = .ok (.iload_n 3, 1) := by decide +kernel
theorem dX8_shares_47 : decode cX8_shares 47 = .ok (.ifCond .eq 12, 3) := by decide +kernel
theorem dX8_shares_50 : decode cX8_shares 50 = .ok (.iload_n 1, 1) := by decide +kernel
theorem dX8_shares_51 : decode cX8_shares 51 = .ok (.iload_n 2, 1) := by decide +kernel
theorem dX8_shares_52 : decode cX8_shares 52 = .ok (.if_icmp .ne 7, 3) := by decide +kernel
theorem dX8_shares_55 : decode cX8_shares 55 = .ok (.iconst 1, 1) := by decide +kernel
theorem dX8_shares_56 : decode cX8_shares 56 = .ok (.goto 4, 3) := by decide +kernel
theorem dX8_shares_59 : decode cX8_shares 59 = .ok (.iconst 0, 1) := by decide +kernel
theorem dX8_shares_60 : decode cX8_shares 60 = .ok (.ireturn, 1) := by decide +kernel
theorem dX8_state_0 : decode cX8_state 0 = .ok (.aload_n 0, 1) := by decide +kernel
theorem dX8_state_1 : decode cX8_state 1 = .ok (.iconst 0, 1) := by decide +kernel
theorem dX8_state_2 : decode cX8_state 2 = .ok (.putfield 87, 3) := by decide +kernel
theorem dX8_state_5 : decode cX8_state 5 = .ok (.iload_n 1, 1) := by decide +kernel
theorem dX8_state_6 : decode cX8_state 6 = .ok (.iconst 1, 1) := by decide +kernel
theorem dX8_state_7 : decode cX8_state 7 = .ok (.if_icmp .lt 11, 3) := by decide +kernel
theorem dX8_state_10 : decode cX8_state 10 = .ok (.iload_n 1, 1) := by decide +kernel
theorem dX8_state_11 : decode cX8_state 11 = .ok (.aload_n 0, 1) := by decide +kernel
theorem dX8_state_12 : decode cX8_state 12 = .ok (.getfield 113, 3) := by decide +kernel
theorem dX8_state_15 : decode cX8_state 15 = .ok (.if_icmp .le 6, 3) := by decide +kernel
theorem dX8_state_18 : decode cX8_state 18 = .ok (.bipush (-2), 2) := by decide +kernel
theorem dX8_state_20 : decode cX8_state 20 = .ok (.ireturn, 1) := by decide +kernel
theorem dX8_state_21 : decode cX8_state 21 = .ok (.aload_n 0, 1) := by decide +kernel
theorem dX8_state_22 : decode cX8_state 22 = .ok (.getfield 44, 3) := by decide +kernel
theorem dX8_state_25 : decode cX8_state 25 = .ok (.iload_n 1, 1) := by decide +kernel
theorem dX8_state_26 : decode cX8_state 26 = .ok (.baload, 1) := by decide +kernel
theorem dX8_state_27 : decode cX8_state 27 = .ok (.ifCond .eq 5, 3) := by decide +kernel
theorem dX8_state_30 : decode cX8_state 30 = .ok (.iconst 2, 1) := by decide +kernel
theorem dX8_state_31 : decode cX8_state 31 = .ok (.ireturn, 1) := by decide +kernel
theorem dX8_state_32 : decode cX8_state 32 = .ok (.aload_n 0, 1) := by decide +kernel
theorem dX8_state_33 : decode cX8_state 33 = .ok (.getfield 47, 3) := by decide +kernel
theorem dX8_state_36 : decode cX8_state 36 = .ok (.aload_n 0, 1) := by decide +kernel
theorem dX8_state_37 : decode cX8_state 37 = .ok (.getfield 29, 3) := by decide +kernel
theorem dX8_state_40 : decode cX8_state 40 = .ok (.iload_n 1, 1) := by decide +kernel
theorem dX8_state_41 : decode cX8_state 41 = .ok (.iaload, 1) := by decide +kernel
theorem dX8_state_42 : decode cX8_state 42 = .ok (.baload, 1) := by decide +kernel
theorem dX8_state_43 : decode cX8_state 43 = .ok (.ifCond .eq 7, 3) := by decide +kernel
theorem dX8_state_46 : decode cX8_state 46 = .ok (.iconst 4, 1) := by decide +kernel
theorem dX8_state_47 : decode cX8_state 47 = .ok (.goto 30, 3) := by decide +kernel
theorem dX8_state_50 : decode cX8_state 50 = .ok (.aload_n 0, 1) := by decide +kernel
theorem dX8_state_51 : decode cX8_state 51 = .ok (.getfield 38, 3) := by decide +kernel
theorem dX8_state_54 : decode cX8_state 54 = .ok (.iload_n 1, 1) := by decide +kernel
theorem dX8_state_55 : decode cX8_state 55 = .ok (.baload, 1) := by decide +kernel
theorem dX8_state_56 : decode cX8_state 56 = .ok (.ifCond .eq 7, 3) := by decide +kernel
theorem dX8_state_59 : decode cX8_state 59 = .ok (.iconst 3, 1) := by decide +kernel
theorem dX8_state_60 : decode cX8_state 60 = .ok (.goto 17, 3) := by decide +kernel
theorem dX8_state_63 : decode cX8_state 63 = .ok (.aload_n 0, 1) := by decide +kernel
theorem dX8_state_64 : decode cX8_state 64 = .ok (.getfield 41, 3) := by decide +kernel
theorem dX8_state_67 : decode cX8_state 67 = .ok (.iload_n 1, 1) := by decide +kernel
theorem dX8_state_68 : decode cX8_state 68 = .ok (.baload, 1) := by decide +kernel
theorem dX8_state_69 : decode cX8_state 69 = .ok (.ifCond .eq 7, 3) := by decide +kernel
theorem dX8_state_72 : decode cX8_state 72 = .ok (.iconst 1, 1) := by decide +kernel
theorem dX8_state_73 : decode cX8_state 73 = .ok (.goto 4, 3) := by decide +kernel
theorem dX8_state_76 : decode cX8_state 76 = .ok (.iconst 0, 1) := by decide +kernel
theorem dX8_state_77 : decode cX8_state 77 = .ok (.ireturn, 1) := by decide +kernel
theorem dX8_enter_0 : decode cX8_enter 0 = .ok (.aload_n 0, 1) := by decide +kernel
theorem dX8_enter_1 : decode cX8_enter 1 = .ok (.getfield 29, 3) := by decide +kernel
theorem dX8_enter_4 : decode cX8_enter 4 = .ok (.iload_n 1, 1) := by decide +kernel
theorem dX8_enter_5 : decode cX8_enter 5 = .ok (.iaload, 1) := by decide +kernel
theorem dX8_enter_6 : decode cX8_enter 6 = .ok (.istore_n 2, 1) := by decide +kernel
theorem dX8_enter_7 : decode cX8_enter 7 = .ok (.aload_n 0, 1) := by decide +kernel
theorem dX8_enter_8 : decode cX8_enter 8 = .ok (.getfield 32, 3) := by decide +kernel
theorem dX8_enter_11 : decode cX8_enter 11 = .ok (.iload_n 1, 1) := by decide +kernel
theorem dX8_enter_12 : decode cX8_enter 12 = .ok (.iaload, 1) := by decide +kernel
theorem dX8_enter_13 : decode cX8_enter 13 = .ok (.istore_n 3, 1) := by decide +kernel
theorem dX8_enter_14 : decode cX8_enter 14 = .ok (.aload_n 0, 1) := by decide +kernel
theorem dX8_enter_15 : decode cX8_enter 15 = .ok (.getfield 78, 3) := by decide +kernel
theorem dX8_enter_18 : decode cX8_enter 18 = .ok (.aload_n 0, 1) := by decide +kernel
theorem dX8_enter_19 : decode cX8_enter 19 = .ok (.getfield 122, 3) := by decide +kernel
theorem dX8_enter_22 : decode cX8_enter 22 = .ok (.iload_n 1, 1) := by decide +kernel
theorem dX8_enter_23 : decode cX8_enter 23 = .ok (.iastore, 1) := by decide +kernel
theorem dX8_enter_24 : decode cX8_enter 24 = .ok (.aload_n 0, 1) := by decide +kernel
theorem dX8_enter_25 : decode cX8_enter 25 = .ok (.getfield 81, 3) := by decide +kernel
theorem dX8_enter_28 : decode cX8_enter 28 = .ok (.aload_n 0, 1) := by decide +kernel
theorem dX8_enter_29 : decode cX8_enter 29 = .ok (.getfield 122, 3) := by decide +kernel
theorem dX8_enter_32 : decode cX8_enter 32 = .ok (.iconst 1, 1) := by decide +kernel
theorem dX8_enter_33 : decode cX8_enter 33 = .ok (.iastore, 1) := by decide +kernel
theorem dX8_enter_34 : decode cX8_enter 34 = .ok (.aload_n 0, 1) := by decide +kernel
theorem dX8_enter_35 : decode cX8_enter 35 = .ok (.dup, 1) := by decide +kernel
theorem dX8_enter_36 : decode cX8_enter 36 = .ok (.getfield 122, 3) := by decide +kernel
theorem dX8_enter_39 : decode cX8_enter 39 = .ok (.iconst 1, 1) := by decide +kernel
theorem dX8_enter_40 : decode cX8_enter 40 = .ok (.iadd, 1) := by decide +kernel
theorem dX8_enter_41 : decode cX8_enter 41 = .ok (.putfield 122, 3) := by decide +kernel
theorem dX8_enter_44 : decode cX8_enter 44 = .ok (.aload_n 0, 1) := by decide +kernel
theorem dX8_enter_45 : decode cX8_enter 45 = .ok (.getfield 41, 3) := by decide +kernel
theorem dX8_enter_48 : decode cX8_enter 48 = .ok (.iload_n 1, 1) := by decide +kernel
theorem dX8_enter_49 : decode cX8_enter 49 = .ok (.baload, 1) := by decide +kernel
theorem dX8_enter_50 : decode cX8_enter 50 = .ok (.ifCond .eq 5, 3) := by decide +kernel
theorem dX8_enter_53 : decode cX8_enter 53 = .ok (.iconst 0, 1) := by decide +kernel
theorem dX8_enter_54 : decode cX8_enter 54 = .ok (.ireturn, 1) := by decide +kernel
theorem dX8_enter_55 : decode cX8_enter 55 = .ok (.aload_n 0, 1) := by decide +kernel
theorem dX8_enter_56 : decode cX8_enter 56 = .ok (.getfield 25, 3) := by decide +kernel
theorem dX8_enter_59 : decode cX8_enter 59 = .ok (.iload_n 3, 1) := by decide +kernel
theorem dX8_enter_60 : decode cX8_enter 60 = .ok (.baload, 1) := by decide +kernel
theorem dX8_enter_61 : decode cX8_enter 61 = .ok (.ifCond .eq 19, 3) := by decide +kernel
theorem dX8_enter_64 : decode cX8_enter 64 = .ok (.aload_n 0, 1) := by decide +kernel
theorem dX8_enter_65 : decode cX8_enter 65 = .ok (.getfield 44, 3) := by decide +kernel
theorem dX8_enter_68 : decode cX8_enter 68 = .ok (.iload_n 1, 1) := by decide +kernel
theorem dX8_enter_69 : decode cX8_enter 69 = .ok (.iconst 1, 1) := by decide +kernel
theorem dX8_enter_70 : decode cX8_enter 70 = .ok (.bastore, 1) := by decide +kernel
theorem dX8_enter_71 : decode cX8_enter 71 = .ok (.aload_n 0, 1) := by decide +kernel
theorem dX8_enter_72 : decode cX8_enter 72 = .ok (.getfield 47, 3) := by decide +kernel
theorem dX8_enter_75 : decode cX8_enter 75 = .ok (.iload_n 2, 1) := by decide +kernel
theorem dX8_enter_76 : decode cX8_enter 76 = .ok (.iconst 1, 1) := by decide +kernel
theorem dX8_enter_77 : decode cX8_enter 77 = .ok (.bastore, 1) := by decide +kernel
theorem dX8_enter_78 : decode cX8_enter 78 = .ok (.iconst 5, 1) := by decide +kernel
theorem dX8_enter_79 : decode cX8_enter 79 = .ok (.ireturn, 1) := by decide +kernel
theorem dX8_enter_80 : decode cX8_enter 80 = .ok (.iconst 0, 1) := by decide +kernel
theorem dX8_enter_81 : decode cX8_enter 81 = .ok (.istore 4, 2) := by decide +kernel
theorem dX8_enter_83 : decode cX8_enter 83 = .ok (.iload 4, 2) := by decide +kernel
theorem dX8_enter_85 : decode cX8_enter 85 = .ok (.bipush 100, 2) := by decide +kernel
theorem dX8_enter_87 : decode cX8_enter 87 = .ok (.if_icmp .ge 35, 3) := by decide +kernel
theorem dX8_enter_90 : decode cX8_enter 90 = .ok (.aload_n 0, 1) := by decide +kernel
theorem dX8_enter_91 : decode cX8_enter 91 = .ok (.getfield 71, 3) := by decide +kernel
theorem dX8_enter_94 : decode cX8_enter 94 = .ok (.sipush 1200, 3) := by decide +kernel
theorem dX8_enter_97 : decode cX8_enter 97 = .ok (.iload_n 2, 1) := by decide +kernel
theorem dX8_enter_98 : decode cX8_enter 98 = .ok (.imul, 1) := by decide +kernel
theorem dX8_enter_99 : decode cX8_enter 99 = .ok (.sipush 1200, 3) := by decide +kernel
theorem dX8_enter_102 : decode cX8_enter 102 = .ok (.isub, 1) := by decide +kernel
theorem dX8_enter_103 : decode cX8_enter 103 = .ok (.bipush 100, 2) := by decide +kernel
theorem dX8_enter_105 : decode cX8_enter 105 = .ok (.iload_n 3, 1) := by decide +kernel
theorem dX8_enter_106 : decode cX8_enter 106 = .ok (.imul, 1) := by decide +kernel
theorem dX8_enter_107 : decode cX8_enter 107 = .ok (.iadd, 1) := by decide +kernel
theorem dX8_enter_108 : decode cX8_enter 108 = .ok (.bipush 100, 2) := by decide +kernel
theorem dX8_enter_110 : decode cX8_enter 110 = .ok (.isub, 1) := by decide +kernel
theorem dX8_enter_111 : decode cX8_enter 111 = .ok (.iload 4, 2) := by decide +kernel
theorem dX8_enter_113 : decode cX8_enter 113 = .ok (.iadd, 1) := by decide +kernel
theorem dX8_enter_114 : decode cX8_enter 114 = .ok (.iconst 0, 1) := by decide +kernel
theorem dX8_enter_115 : decode cX8_enter 115 = .ok (.bastore, 1) := by decide +kernel
theorem dX8_enter_116 : decode cX8_enter 116 = .ok (.iinc 4 1, 3) := by decide +kernel
theorem dX8_enter_119 : decode cX8_enter 119 = .ok (.goto (-36), 3) := by decide +kernel
theorem dX8_enter_122 : decode cX8_enter 122 = .ok (.aload_n 0, 1) := by decide +kernel
theorem dX8_enter_123 : decode cX8_enter 123 = .ok (.getfield 41, 3) := by decide +kernel
theorem dX8_enter_126 : decode cX8_enter 126 = .ok (.iload_n 1, 1) := by decide +kernel
theorem dX8_enter_127 : decode cX8_enter 127 = .ok (.iconst 1, 1) := by decide +kernel
theorem dX8_enter_128 : decode cX8_enter 128 = .ok (.bastore, 1) := by decide +kernel
theorem dX8_enter_129 : decode cX8_enter 129 = .ok (.iconst 0, 1) := by decide +kernel
theorem dX8_enter_130 : decode cX8_enter 130 = .ok (.ireturn, 1) := by decide +kernel
theorem dX8_called_0 : decode cX8_called 0 = .ok (.aload_n 0, 1) := by decide +kernel
theorem dX8_called_1 : decode cX8_called 1 = .ok (.getfield 122, 3) := by decide +kernel
theorem dX8_called_4 : decode cX8_called 4 = .ok (.bipush 11, 2) := by decide +kernel
theorem dX8_called_6 : decode cX8_called 6 = .ok (.if_icmp .ne 5, 3) := by decide +kernel
theorem dX8_called_9 : decode cX8_called 9 = .ok (.iconst 3, 1) := by decide +kernel
theorem dX8_called_10 : decode cX8_called 10 = .ok (.ireturn, 1) := by decide +kernel
theorem dX8_called_11 : decode cX8_called 11 = .ok (.aload_n 0, 1) := by decide +kernel
theorem dX8_called_12 : decode cX8_called 12 = .ok (.iload_n 2, 1) := by decide +kernel
theorem dX8_called_13 : decode cX8_called 13 = .ok (.invokevirtual 101, 3) := by decide +kernel
theorem dX8_called_16 : decode cX8_called 16 = .ok (.ifCond .ne 6, 3) := by decide +kernel
theorem dX8_called_19 : decode cX8_called 19 = .ok (.bipush 6, 2) := by decide +kernel
theorem dX8_called_21 : decode cX8_called 21 = .ok (.ireturn, 1) := by decide +kernel
theorem dX8_called_22 : decode cX8_called 22 = .ok (.aload_n 0, 1) := by decide +kernel
theorem dX8_called_23 : decode cX8_called 23 = .ok (.iload_n 1, 1) := by decide +kernel
theorem dX8_called_24 : decode cX8_called 24 = .ok (.iload_n 2, 1) := by decide +kernel
theorem dX8_called_25 : decode cX8_called 25 = .ok (.invokevirtual 109, 3) := by decide +kernel
theorem dX8_called_28 : decode cX8_called 28 = .ok (.istore_n 3, 1) := by decide +kernel
theorem dX8_called_29 : decode cX8_called 29 = .ok (.iload_n 3, 1) := by decide +kernel
theorem dX8_called_30 : decode cX8_called 30 = .ok (.ifCond .ne 10, 3) := by decide +kernel
theorem dX8_called_33 : decode cX8_called 33 = .ok (.aload_n 0, 1) := by decide +kernel
theorem dX8_called_34 : decode cX8_called 34 = .ok (.iload_n 1, 1) := by decide +kernel
theorem dX8_called_35 : decode cX8_called 35 = .ok (.iload_n 2, 1) := by decide +kernel
theorem dX8_called_36 : decode cX8_called 36 = .ok (.invokevirtual 119, 3) := by decide +kernel
theorem dX8_called_39 : decode cX8_called 39 = .ok (.istore_n 3, 1) := by decide +kernel
theorem dX8_called_40 : decode cX8_called 40 = .ok (.iload_n 3, 1) := by decide +kernel
theorem dX8_called_41 : decode cX8_called 41 = .ok (.iconst (-1), 1) := by decide +kernel
theorem dX8_called_42 : decode cX8_called 42 = .ok (.if_icmp .ne 8, 3) := by decide +kernel
theorem dX8_called_45 : decode cX8_called 45 = .ok (.bipush 6, 2) := by decide +kernel
theorem dX8_called_47 : decode cX8_called 47 = .ok (.goto 8, 3) := by decide +kernel
theorem dX8_called_50 : decode cX8_called 50 = .ok (.aload_n 0, 1) := by decide +kernel
theorem dX8_called_51 : decode cX8_called 51 = .ok (.iload_n 3, 1) := by decide +kernel
theorem dX8_called_52 : decode cX8_called 52 = .ok (.invokevirtual 125, 3) := by decide +kernel
theorem dX8_called_55 : decode cX8_called 55 = .ok (.ireturn, 1) := by decide +kernel
theorem dX8_step_0 : decode cX8_step 0 = .ok (.aload_n 0, 1) := by decide +kernel
theorem dX8_step_1 : decode cX8_step 1 = .ok (.getfield 29, 3) := by decide +kernel
theorem dX8_step_4 : decode cX8_step 4 = .ok (.iload_n 1, 1) := by decide +kernel
theorem dX8_step_5 : decode cX8_step 5 = .ok (.iaload, 1) := by decide +kernel
theorem dX8_step_6 : decode cX8_step 6 = .ok (.istore_n 3, 1) := by decide +kernel
theorem dX8_step_7 : decode cX8_step 7 = .ok (.aload_n 0, 1) := by decide +kernel
theorem dX8_step_8 : decode cX8_step 8 = .ok (.getfield 32, 3) := by decide +kernel
theorem dX8_step_11 : decode cX8_step 11 = .ok (.iload_n 1, 1) := by decide +kernel
theorem dX8_step_12 : decode cX8_step 12 = .ok (.iaload, 1) := by decide +kernel
theorem dX8_step_13 : decode cX8_step 13 = .ok (.istore 4, 2) := by decide +kernel
theorem dX8_step_15 : decode cX8_step 15 = .ok (.sipush 1200, 3) := by decide +kernel
theorem dX8_step_18 : decode cX8_step 18 = .ok (.iload_n 3, 1) := by decide +kernel
theorem dX8_step_19 : decode cX8_step 19 = .ok (.imul, 1) := by decide +kernel
theorem dX8_step_20 : decode cX8_step 20 = .ok (.sipush 1200, 3) := by decide +kernel
theorem dX8_step_23 : decode cX8_step 23 = .ok (.isub, 1) := by decide +kernel
theorem dX8_step_24 : decode cX8_step 24 = .ok (.bipush 100, 2) := by decide +kernel
theorem dX8_step_26 : decode cX8_step 26 = .ok (.iload 4, 2) := by decide +kernel
theorem dX8_step_28 : decode cX8_step 28 = .ok (.imul, 1) := by decide +kernel
theorem dX8_step_29 : decode cX8_step 29 = .ok (.iadd, 1) := by decide +kernel
theorem dX8_step_30 : decode cX8_step 30 = .ok (.bipush 100, 2) := by decide +kernel
theorem dX8_step_32 : decode cX8_step 32 = .ok (.isub, 1) := by decide +kernel
theorem dX8_step_33 : decode cX8_step 33 = .ok (.istore 5, 2) := by decide +kernel
theorem dX8_step_35 : decode cX8_step 35 = .ok (.bipush 60, 2) := by decide +kernel
theorem dX8_step_37 : decode cX8_step 37 = .ok (.iload 4, 2) := by decide +kernel
theorem dX8_step_39 : decode cX8_step 39 = .ok (.imul, 1) := by decide +kernel
theorem dX8_step_40 : decode cX8_step 40 = .ok (.iload_n 2, 1) := by decide +kernel
theorem dX8_step_41 : decode cX8_step 41 = .ok (.iadd, 1) := by decide +kernel
theorem dX8_step_42 : decode cX8_step 42 = .ok (.istore 6, 2) := by decide +kernel
theorem dX8_step_44 : decode cX8_step 44 = .ok (.aload_n 0, 1) := by decide +kernel
theorem dX8_step_45 : decode cX8_step 45 = .ok (.getfield 19, 3) := by decide +kernel
theorem dX8_step_48 : decode cX8_step 48 = .ok (.iload 6, 2) := by decide +kernel
theorem dX8_step_50 : decode cX8_step 50 = .ok (.iaload, 1) := by decide +kernel
theorem dX8_step_51 : decode cX8_step 51 = .ok (.istore 7, 2) := by decide +kernel
theorem dX8_step_53 : decode cX8_step 53 = .ok (.aload_n 0, 1) := by decide +kernel
theorem dX8_step_54 : decode cX8_step 54 = .ok (.getfield 22, 3) := by decide +kernel
theorem dX8_step_57 : decode cX8_step 57 = .ok (.iload 6, 2) := by decide +kernel
theorem dX8_step_59 : decode cX8_step 59 = .ok (.iaload, 1) := by decide +kernel
theorem dX8_step_60 : decode cX8_step 60 = .ok (.istore 8, 2) := by decide +kernel
theorem dX8_step_62 : decode cX8_step 62 = .ok (.aload_n 0, 1) := by decide +kernel
theorem dX8_step_63 : decode cX8_step 63 = .ok (.getfield 16, 3) := by decide +kernel
theorem dX8_step_66 : decode cX8_step 66 = .ok (.iload 6, 2) := by decide +kernel
theorem dX8_step_68 : decode cX8_step 68 = .ok (.iaload, 1) := by decide +kernel
theorem dX8_step_69 : decode cX8_step 69 = .ok (.istore 9, 2) := by decide +kernel
theorem dX8_step_71 : decode cX8_step 71 = .ok (.iload 9, 2) := by decide +kernel
theorem dX8_step_73 : decode cX8_step 73 = .ok (.bipush 9, 2) := by decide +kernel
theorem dX8_step_75 : decode cX8_step 75 = .ok (.if_icmp .lt 10, 3) := by decide +kernel
theorem dX8_step_78 : decode cX8_step 78 = .ok (.iload 9, 2) := by decide +kernel
theorem dX8_step_80 : decode cX8_step 80 = .ok (.bipush 13, 2) := by decide +kernel
theorem dX8_step_82 : decode cX8_step 82 = .ok (.if_icmp .ne 16, 3) := by decide +kernel
theorem dX8_step_85 : decode cX8_step 85 = .ok (.aload_n 0, 1) := by decide +kernel
theorem dX8_step_86 : decode cX8_step 86 = .ok (.getfield 71, 3) := by decide +kernel
theorem dX8_step_89 : decode cX8_step 89 = .ok (.iload 5, 2) := by decide +kernel
theorem dX8_step_91 : decode cX8_step 91 = .ok (.iload 7, 2) := by decide +kernel
theorem dX8_step_93 : decode cX8_step 93 = .ok (.iadd, 1) := by decide +kernel
theorem dX8_step_94 : decode cX8_step 94 = .ok (.baload, 1) := by decide +kernel
theorem dX8_step_95 : decode cX8_step 95 = .ok (.goto 4, 3) := by decide +kernel
theorem dX8_step_98 : decode cX8_step 98 = .ok (.iconst 0, 1) := by decide +kernel
theorem dX8_step_99 : decode cX8_step 99 = .ok (.istore 10, 2) := by decide +kernel
theorem dX8_step_101 : decode cX8_step 101 = .ok (.iload 9, 2) := by decide +kernel
theorem dX8_step_103 : decode cX8_step 103 = .ok (.ifCond .le 23, 3) := by decide +kernel
theorem dX8_step_106 : decode cX8_step 106 = .ok (.iload 9, 2) := by decide +kernel
theorem dX8_step_108 : decode cX8_step 108 = .ok (.bipush 8, 2) := by decide +kernel
theorem dX8_step_110 : decode cX8_step 110 = .ok (.if_icmp .ge 16, 3) := by decide +kernel
theorem dX8_step_113 : decode cX8_step 113 = .ok (.aload_n 0, 1) := by decide +kernel
theorem dX8_step_114 : decode cX8_step 114 = .ok (.getfield 71, 3) := by decide +kernel
theorem dX8_step_117 : decode cX8_step 117 = .ok (.iload 5, 2) := by decide +kernel
theorem dX8_step_119 : decode cX8_step 119 = .ok (.iload 8, 2) := by decide +kernel
theorem dX8_step_121 : decode cX8_step 121 = .ok (.iadd, 1) := by decide +kernel
theorem dX8_step_122 : decode cX8_step 122 = .ok (.baload, 1) := by decide +kernel
theorem dX8_step_123 : decode cX8_step 123 = .ok (.goto 4, 3) := by decide +kernel
theorem dX8_step_126 : decode cX8_step 126 = .ok (.iconst 0, 1) := by decide +kernel
theorem dX8_step_127 : decode cX8_step 127 = .ok (.istore 11, 2) := by decide +kernel
theorem dX8_step_129 : decode cX8_step 129 = .ok (.iload 9, 2) := by decide +kernel
theorem dX8_step_131 : decode cX8_step 131 = .ok (.iconst 5, 1) := by decide +kernel
theorem dX8_step_132 : decode cX8_step 132 = .ok (.if_icmp .eq 10, 3) := by decide +kernel
theorem dX8_step_135 : decode cX8_step 135 = .ok (.iload 9, 2) := by decide +kernel
theorem dX8_step_137 : decode cX8_step 137 = .ok (.bipush 6, 2) := by decide +kernel
theorem dX8_step_139 : decode cX8_step 139 = .ok (.if_icmp .ne 10, 3) := by decide +kernel
theorem dX8_step_142 : decode cX8_step 142 = .ok (.iload 11, 2) := by decide +kernel
theorem dX8_step_144 : decode cX8_step 144 = .ok (.ifCond .ne 5, 3) := by decide +kernel
theorem dX8_step_147 : decode cX8_step 147 = .ok (.iconst 1, 1) := by decide +kernel
theorem dX8_step_148 : decode cX8_step 148 = .ok (.ireturn, 1) := by decide +kernel
theorem dX8_step_149 : decode cX8_step 149 = .ok (.iload 9, 2) := by decide +kernel
theorem dX8_step_151 : decode cX8_step 151 = .ok (.tableswitch 324 0 12 #[65, 80, 95, 113, 131, 149, 167, 185, 219, 239, 254, 262, 306], 65) := by decide +kernel
theorem dX8_step_216 : decode cX8_step 216 = .ok (.aload_n 0, 1) := by decide +kernel
theorem dX8_step_217 : decode cX8_step 217 = .ok (.getfield 71, 3) := by decide +kernel
theorem dX8_step_220 : decode cX8_step 220 = .ok (.iload 5, 2) := by decide +kernel
theorem dX8_step_222 : decode cX8_step 222 = .ok (.iload 7, 2) := by decide +kernel
theorem dX8_step_224 : decode cX8_step 224 = .ok (.iadd, 1) := by decide +kernel
theorem dX8_step_225 : decode cX8_step 225 = .ok (.iload 8, 2) := by decide +kernel
theorem dX8_step_227 : decode cX8_step 227 = .ok (.i2b, 1) := by decide +kernel
theorem dX8_step_228 : decode cX8_step 228 = .ok (.bastore, 1) := by decide +kernel
theorem dX8_step_229 : decode cX8_step 229 = .ok (.iconst 0, 1) := by decide +kernel
theorem dX8_step_230 : decode cX8_step 230 = .ok (.ireturn, 1) := by decide +kernel
theorem dX8_step_231 : decode cX8_step 231 = .ok (.aload_n 0, 1) := by decide +kernel
theorem dX8_step_232 : decode cX8_step 232 = .ok (.getfield 71, 3) := by decide +kernel
theorem dX8_step_235 : decode cX8_step 235 = .ok (.iload 5, 2) := by decide +kernel
theorem dX8_step_237 : decode cX8_step 237 = .ok (.iload 7, 2) := by decide +kernel
theorem dX8_step_239 : decode cX8_step 239 = .ok (.iadd, 1) := by decide +kernel
theorem dX8_step_240 : decode cX8_step 240 = .ok (.iload 11, 2) := by decide +kernel
theorem dX8_step_242 : decode cX8_step 242 = .ok (.i2b, 1) := by decide +kernel
theorem dX8_step_243 : decode cX8_step 243 = .ok (.bastore, 1) := by decide +kernel
theorem dX8_step_244 : decode cX8_step 244 = .ok (.iconst 0, 1) := by decide +kernel
theorem dX8_step_245 : decode cX8_step 245 = .ok (.ireturn, 1) := by decide +kernel
theorem dX8_step_246 : decode cX8_step 246 = .ok (.aload_n 0, 1) := by decide +kernel
theorem dX8_step_247 : decode cX8_step 247 = .ok (.getfield 71, 3) := by decide +kernel
theorem dX8_step_250 : decode cX8_step 250 = .ok (.iload 5, 2) := by decide +kernel
theorem dX8_step_252 : decode cX8_step 252 = .ok (.iload 7, 2) := by decide +kernel
theorem dX8_step_254 : decode cX8_step 254 = .ok (.iadd, 1) := by decide +kernel
theorem dX8_step_255 : decode cX8_step 255 = .ok (.iload 10, 2) := by decide +kernel
theorem dX8_step_257 : decode cX8_step 257 = .ok (.iload 11, 2) := by decide +kernel
theorem dX8_step_259 : decode cX8_step 259 = .ok (.iadd, 1) := by decide +kernel
theorem dX8_step_260 : decode cX8_step 260 = .ok (.i2b, 1) := by decide +kernel
theorem dX8_step_261 : decode cX8_step 261 = .ok (.bastore, 1) := by decide +kernel
theorem dX8_step_262 : decode cX8_step 262 = .ok (.iconst 0, 1) := by decide +kernel
theorem dX8_step_263 : decode cX8_step 263 = .ok (.ireturn, 1) := by decide +kernel
theorem dX8_step_264 : decode cX8_step 264 = .ok (.aload_n 0, 1) := by decide +kernel
theorem dX8_step_265 : decode cX8_step 265 = .ok (.getfield 71, 3) := by decide +kernel
theorem dX8_step_268 : decode cX8_step 268 = .ok (.iload 5, 2) := by decide +kernel
theorem dX8_step_270 : decode cX8_step 270 = .ok (.iload 7, 2) := by decide +kernel
theorem dX8_step_272 : decode cX8_step 272 = .ok (.iadd, 1) := by decide +kernel
theorem dX8_step_273 : decode cX8_step 273 = .ok (.iload 10, 2) := by decide +kernel
theorem dX8_step_275 : decode cX8_step 275 = .ok (.iload 11, 2) := by decide +kernel
theorem dX8_step_277 : decode cX8_step 277 = .ok (.isub, 1) := by decide +kernel
theorem dX8_step_278 : decode cX8_step 278 = .ok (.i2b, 1) := by decide +kernel
theorem dX8_step_279 : decode cX8_step 279 = .ok (.bastore, 1) := by decide +kernel
theorem dX8_step_280 : decode cX8_step 280 = .ok (.iconst 0, 1) := by decide +kernel
theorem dX8_step_281 : decode cX8_step 281 = .ok (.ireturn, 1) := by decide +kernel
theorem dX8_step_282 : decode cX8_step 282 = .ok (.aload_n 0, 1) := by decide +kernel
theorem dX8_step_283 : decode cX8_step 283 = .ok (.getfield 71, 3) := by decide +kernel
theorem dX8_step_286 : decode cX8_step 286 = .ok (.iload 5, 2) := by decide +kernel
theorem dX8_step_288 : decode cX8_step 288 = .ok (.iload 7, 2) := by decide +kernel
theorem dX8_step_290 : decode cX8_step 290 = .ok (.iadd, 1) := by decide +kernel
theorem dX8_step_291 : decode cX8_step 291 = .ok (.iload 10, 2) := by decide +kernel
theorem dX8_step_293 : decode cX8_step 293 = .ok (.iload 11, 2) := by decide +kernel
theorem dX8_step_295 : decode cX8_step 295 = .ok (.imul, 1) := by decide +kernel
theorem dX8_step_296 : decode cX8_step 296 = .ok (.i2b, 1) := by decide +kernel
theorem dX8_step_297 : decode cX8_step 297 = .ok (.bastore, 1) := by decide +kernel
theorem dX8_step_298 : decode cX8_step 298 = .ok (.iconst 0, 1) := by decide +kernel
theorem dX8_step_299 : decode cX8_step 299 = .ok (.ireturn, 1) := by decide +kernel
theorem dX8_step_300 : decode cX8_step 300 = .ok (.aload_n 0, 1) := by decide +kernel
theorem dX8_step_301 : decode cX8_step 301 = .ok (.getfield 71, 3) := by decide +kernel
theorem dX8_step_304 : decode cX8_step 304 = .ok (.iload 5, 2) := by decide +kernel
theorem dX8_step_306 : decode cX8_step 306 = .ok (.iload 7, 2) := by decide +kernel
theorem dX8_step_308 : decode cX8_step 308 = .ok (.iadd, 1) := by decide +kernel
theorem dX8_step_309 : decode cX8_step 309 = .ok (.iload 10, 2) := by decide +kernel
theorem dX8_step_311 : decode cX8_step 311 = .ok (.iload 11, 2) := by decide +kernel
theorem dX8_step_313 : decode cX8_step 313 = .ok (.idiv, 1) := by decide +kernel
theorem dX8_step_314 : decode cX8_step 314 = .ok (.i2b, 1) := by decide +kernel
theorem dX8_step_315 : decode cX8_step 315 = .ok (.bastore, 1) := by decide +kernel
theorem dX8_step_316 : decode cX8_step 316 = .ok (.iconst 0, 1) := by decide +kernel
theorem dX8_step_317 : decode cX8_step 317 = .ok (.ireturn, 1) := by decide +kernel
theorem dX8_step_318 : decode cX8_step 318 = .ok (.aload_n 0, 1) := by decide +kernel
theorem dX8_step_319 : decode cX8_step 319 = .ok (.getfield 71, 3) := by decide +kernel
theorem dX8_step_322 : decode cX8_step 322 = .ok (.iload 5, 2) := by decide +kernel
theorem dX8_step_324 : decode cX8_step 324 = .ok (.iload 7, 2) := by decide +kernel
theorem dX8_step_326 : decode cX8_step 326 = .ok (.iadd, 1) := by decide +kernel
theorem dX8_step_327 : decode cX8_step 327 = .ok (.iload 10, 2) := by decide +kernel
theorem dX8_step_329 : decode cX8_step 329 = .ok (.iload 11, 2) := by decide +kernel
theorem dX8_step_331 : decode cX8_step 331 = .ok (.irem, 1) := by decide +kernel
theorem dX8_step_332 : decode cX8_step 332 = .ok (.i2b, 1) := by decide +kernel
theorem dX8_step_333 : decode cX8_step 333 = .ok (.bastore, 1) := by decide +kernel
theorem dX8_step_334 : decode cX8_step 334 = .ok (.iconst 0, 1) := by decide +kernel
theorem dX8_step_335 : decode cX8_step 335 = .ok (.ireturn, 1) := by decide +kernel
theorem dX8_step_336 : decode cX8_step 336 = .ok (.iload 10, 2) := by decide +kernel
theorem dX8_step_338 : decode cX8_step 338 = .ok (.ifCond .lt 15, 3) := by decide +kernel
theorem dX8_step_341 : decode cX8_step 341 = .ok (.iload 10, 2) := by decide +kernel
theorem dX8_step_343 : decode cX8_step 343 = .ok (.aload_n 0, 1) := by decide +kernel
theorem dX8_step_344 : decode cX8_step 344 = .ok (.getfield 7, 3) := by decide +kernel
theorem dX8_step_347 : decode cX8_step 347 = .ok (.iload 4, 2) := by decide +kernel
theorem dX8_step_349 : decode cX8_step 349 = .ok (.iaload, 1) := by decide +kernel
theorem dX8_step_350 : decode cX8_step 350 = .ok (.if_icmp .lt 5, 3) := by decide +kernel
theorem dX8_step_353 : decode cX8_step 353 = .ok (.iconst 2, 1) := by decide +kernel
theorem dX8_step_354 : decode cX8_step 354 = .ok (.ireturn, 1) := by decide +kernel
theorem dX8_step_355 : decode cX8_step 355 = .ok (.aload_n 0, 1) := by decide +kernel
theorem dX8_step_356 : decode cX8_step 356 = .ok (.getfield 71, 3) := by decide +kernel
theorem dX8_step_359 : decode cX8_step 359 = .ok (.iload 5, 2) := by decide +kernel
theorem dX8_step_361 : decode cX8_step 361 = .ok (.iload 10, 2) := by decide +kernel
theorem dX8_step_363 : decode cX8_step 363 = .ok (.iadd, 1) := by decide +kernel
theorem dX8_step_364 : decode cX8_step 364 = .ok (.iload 11, 2) := by decide +kernel
theorem dX8_step_366 : decode cX8_step 366 = .ok (.i2b, 1) := by decide +kernel
theorem dX8_step_367 : decode cX8_step 367 = .ok (.bastore, 1) := by decide +kernel
theorem dX8_step_368 : decode cX8_step 368 = .ok (.iconst 0, 1) := by decide +kernel
theorem dX8_step_369 : decode cX8_step 369 = .ok (.ireturn, 1) := by decide +kernel
theorem dX8_step_370 : decode cX8_step 370 = .ok (.iload 10, 2) := by decide +kernel
theorem dX8_step_372 : decode cX8_step 372 = .ok (.ifCond .ne 16, 3) := by decide +kernel
theorem dX8_step_375 : decode cX8_step 375 = .ok (.aload_n 0, 1) := by decide +kernel
theorem dX8_step_376 : decode cX8_step 376 = .ok (.getfield 81, 3) := by decide +kernel
theorem dX8_step_379 : decode cX8_step 379 = .ok (.aload_n 0, 1) := by decide +kernel
theorem dX8_step_380 : decode cX8_step 380 = .ok (.getfield 122, 3) := by decide +kernel
theorem dX8_step_383 : decode cX8_step 383 = .ok (.iconst 1, 1) := by decide +kernel
theorem dX8_step_384 : decode cX8_step 384 = .ok (.isub, 1) := by decide +kernel
theorem dX8_step_385 : decode cX8_step 385 = .ok (.iload 8, 2) := by decide +kernel
theorem dX8_step_387 : decode cX8_step 387 = .ok (.iastore, 1) := by decide +kernel
theorem dX8_step_388 : decode cX8_step 388 = .ok (.iconst 0, 1) := by decide +kernel
theorem dX8_step_389 : decode cX8_step 389 = .ok (.ireturn, 1) := by decide +kernel
theorem dX8_step_390 : decode cX8_step 390 = .ok (.aload_n 0, 1) := by decide +kernel
theorem dX8_step_391 : decode cX8_step 391 = .ok (.getfield 81, 3) := by decide +kernel
theorem dX8_step_394 : decode cX8_step 394 = .ok (.aload_n 0, 1) := by decide +kernel
theorem dX8_step_395 : decode cX8_step 395 = .ok (.getfield 122, 3) := by decide +kernel
theorem dX8_step_398 : decode cX8_step 398 = .ok (.iconst 1, 1) := by decide +kernel
theorem dX8_step_399 : decode cX8_step 399 = .ok (.isub, 1) := by decide +kernel
theorem dX8_step_400 : decode cX8_step 400 = .ok (.iload 8, 2) := by decide +kernel
theorem dX8_step_402 : decode cX8_step 402 = .ok (.iastore, 1) := by decide +kernel
theorem dX8_step_403 : decode cX8_step 403 = .ok (.iconst 0, 1) := by decide +kernel
theorem dX8_step_404 : decode cX8_step 404 = .ok (.ireturn, 1) := by decide +kernel
theorem dX8_step_405 : decode cX8_step 405 = .ok (.aload_n 0, 1) := by decide +kernel
theorem dX8_step_406 : decode cX8_step 406 = .ok (.iload_n 3, 1) := by decide +kernel
theorem dX8_step_407 : decode cX8_step 407 = .ok (.iload 7, 2) := by decide +kernel
theorem dX8_step_409 : decode cX8_step 409 = .ok (.invokevirtual 129, 3) := by decide +kernel
theorem dX8_step_412 : decode cX8_step 412 = .ok (.ireturn, 1) := by decide +kernel
theorem dX8_step_413 : decode cX8_step 413 = .ok (.aload_n 0, 1) := by decide +kernel
theorem dX8_step_414 : decode cX8_step 414 = .ok (.getfield 68, 3) := by decide +kernel
theorem dX8_step_417 : decode cX8_step 417 = .ok (.iload_n 3, 1) := by decide +kernel
theorem dX8_step_418 : decode cX8_step 418 = .ok (.iaload, 1) := by decide +kernel
theorem dX8_step_419 : decode cX8_step 419 = .ok (.bipush 100, 2) := by decide +kernel
theorem dX8_step_421 : decode cX8_step 421 = .ok (.if_icmp .ge 34, 3) := by decide +kernel
theorem dX8_step_424 : decode cX8_step 424 = .ok (.aload_n 0, 1) := by decide +kernel
theorem dX8_step_425 : decode cX8_step 425 = .ok (.getfield 75, 3) := by decide +kernel
theorem dX8_step_428 : decode cX8_step 428 = .ok (.bipush 100, 2) := by decide +kernel
theorem dX8_step_430 : decode cX8_step 430 = .ok (.iload_n 3, 1) := by decide +kernel
theorem dX8_step_431 : decode cX8_step 431 = .ok (.imul, 1) := by decide +kernel
theorem dX8_step_432 : decode cX8_step 432 = .ok (.bipush 100, 2) := by decide +kernel
theorem dX8_step_434 : decode cX8_step 434 = .ok (.isub, 1) := by decide +kernel
theorem dX8_step_435 : decode cX8_step 435 = .ok (.aload_n 0, 1) := by decide +kernel
theorem dX8_step_436 : decode cX8_step 436 = .ok (.getfield 68, 3) := by decide +kernel
theorem dX8_step_439 : decode cX8_step 439 = .ok (.iload_n 3, 1) := by decide +kernel
theorem dX8_step_440 : decode cX8_step 440 = .ok (.iaload, 1) := by decide +kernel
theorem dX8_step_441 : decode cX8_step 441 = .ok (.iadd, 1) := by decide +kernel
theorem dX8_step_442 : decode cX8_step 442 = .ok (.iload 7, 2) := by decide +kernel
theorem dX8_step_444 : decode cX8_step 444 = .ok (.iastore, 1) := by decide +kernel
theorem dX8_step_445 : decode cX8_step 445 = .ok (.aload_n 0, 1) := by decide +kernel
theorem dX8_step_446 : decode cX8_step 446 = .ok (.getfield 68, 3) := by decide +kernel
theorem dX8_step_449 : decode cX8_step 449 = .ok (.iload_n 3, 1) := by decide +kernel
theorem dX8_step_450 : decode cX8_step 450 = .ok (.dup2, 1) := by decide +kernel
theorem dX8_step_451 : decode cX8_step 451 = .ok (.iaload, 1) := by decide +kernel
theorem dX8_step_452 : decode cX8_step 452 = .ok (.iconst 1, 1) := by decide +kernel
theorem dX8_step_453 : decode cX8_step 453 = .ok (.iadd, 1) := by decide +kernel
theorem dX8_step_454 : decode cX8_step 454 = .ok (.iastore, 1) := by decide +kernel
theorem dX8_step_455 : decode cX8_step 455 = .ok (.iconst 0, 1) := by decide +kernel
theorem dX8_step_456 : decode cX8_step 456 = .ok (.ireturn, 1) := by decide +kernel
theorem dX8_step_457 : decode cX8_step 457 = .ok (.aload_n 0, 1) := by decide +kernel
theorem dX8_step_458 : decode cX8_step 458 = .ok (.getfield 62, 3) := by decide +kernel
theorem dX8_step_461 : decode cX8_step 461 = .ok (.iload_n 3, 1) := by decide +kernel
theorem dX8_step_462 : decode cX8_step 462 = .ok (.iload 7, 2) := by decide +kernel
theorem dX8_step_464 : decode cX8_step 464 = .ok (.iastore, 1) := by decide +kernel
theorem dX8_step_465 : decode cX8_step 465 = .ok (.aload_n 0, 1) := by decide +kernel
theorem dX8_step_466 : decode cX8_step 466 = .ok (.getfield 47, 3) := by decide +kernel
theorem dX8_step_469 : decode cX8_step 469 = .ok (.iload_n 3, 1) := by decide +kernel
theorem dX8_step_470 : decode cX8_step 470 = .ok (.iconst 1, 1) := by decide +kernel
theorem dX8_step_471 : decode cX8_step 471 = .ok (.bastore, 1) := by decide +kernel
theorem dX8_step_472 : decode cX8_step 472 = .ok (.bipush 99, 2) := by decide +kernel
theorem dX8_step_474 : decode cX8_step 474 = .ok (.ireturn, 1) := by decide +kernel
theorem dX8_step_475 : decode cX8_step 475 = .ok (.iload 10, 2) := by decide +kernel
theorem dX8_step_477 : decode cX8_step 477 = .ok (.iload 8, 2) := by decide +kernel
theorem dX8_step_479 : decode cX8_step 479 = .ok (.if_icmp .le 7, 3) := by decide +kernel
theorem dX8_step_482 : decode cX8_step 482 = .ok (.iconst 4, 1) := by decide +kernel
theorem dX8_step_483 : decode cX8_step 483 = .ok (.goto 4, 3) := by decide +kernel
theorem dX8_step_486 : decode cX8_step 486 = .ok (.iconst 0, 1) := by decide +kernel
theorem dX8_step_487 : decode cX8_step 487 = .ok (.ireturn, 1) := by decide +kernel
theorem dX8_run_0 : decode cX8_run 0 = .ok (.aload_n 0, 1) := by decide +kernel
theorem dX8_run_1 : decode cX8_run 1 = .ok (.iconst 0, 1) := by decide +kernel
theorem dX8_run_2 : decode cX8_run 2 = .ok (.putfield 87, 3) := by decide +kernel
theorem dX8_run_5 : decode cX8_run 5 = .ok (.aload_n 0, 1) := by decide +kernel
theorem dX8_run_6 : decode cX8_run 6 = .ok (.iload_n 1, 1) := by decide +kernel
theorem dX8_run_7 : decode cX8_run 7 = .ok (.invokevirtual 116, 3) := by decide +kernel
theorem dX8_run_10 : decode cX8_run 10 = .ok (.ifCond .eq 11, 3) := by decide +kernel
theorem dX8_run_13 : decode cX8_run 13 = .ok (.aload_n 0, 1) := by decide +kernel
theorem dX8_run_14 : decode cX8_run 14 = .ok (.iload_n 2, 1) := by decide +kernel
theorem dX8_run_15 : decode cX8_run 15 = .ok (.invokevirtual 101, 3) := by decide +kernel
theorem dX8_run_18 : decode cX8_run 18 = .ok (.ifCond .ne 6, 3) := by decide +kernel
theorem dX8_run_21 : decode cX8_run 21 = .ok (.bipush (-2), 2) := by decide +kernel
theorem dX8_run_23 : decode cX8_run 23 = .ok (.ireturn, 1) := by decide +kernel
theorem dX8_run_24 : decode cX8_run 24 = .ok (.aload_n 0, 1) := by decide +kernel
theorem dX8_run_25 : decode cX8_run 25 = .ok (.iload_n 1, 1) := by decide +kernel
theorem dX8_run_26 : decode cX8_run 26 = .ok (.iload_n 2, 1) := by decide +kernel
theorem dX8_run_27 : decode cX8_run 27 = .ok (.invokevirtual 109, 3) := by decide +kernel
theorem dX8_run_30 : decode cX8_run 30 = .ok (.istore_n 3, 1) := by decide +kernel
theorem dX8_run_31 : decode cX8_run 31 = .ok (.aload_n 0, 1) := by decide +kernel
theorem dX8_run_32 : decode cX8_run 32 = .ok (.getfield 47, 3) := by decide +kernel
theorem dX8_run_35 : decode cX8_run 35 = .ok (.iload_n 1, 1) := by decide +kernel
theorem dX8_run_36 : decode cX8_run 36 = .ok (.baload, 1) := by decide +kernel
theorem dX8_run_37 : decode cX8_run 37 = .ok (.ifCond .ne 7, 3) := by decide +kernel
theorem dX8_run_40 : decode cX8_run 40 = .ok (.iload_n 3, 1) := by decide +kernel
theorem dX8_run_41 : decode cX8_run 41 = .ok (.ifCond .ne 6, 3) := by decide +kernel
theorem dX8_run_44 : decode cX8_run 44 = .ok (.bipush (-5), 2) := by decide +kernel
theorem dX8_run_46 : decode cX8_run 46 = .ok (.ireturn, 1) := by decide +kernel
theorem dX8_run_47 : decode cX8_run 47 = .ok (.aload_n 0, 1) := by decide +kernel
theorem dX8_run_48 : decode cX8_run 48 = .ok (.getfield 50, 3) := by decide +kernel
theorem dX8_run_51 : decode cX8_run 51 = .ok (.iload_n 1, 1) := by decide +kernel
theorem dX8_run_52 : decode cX8_run 52 = .ok (.iconst 1, 1) := by decide +kernel
theorem dX8_run_53 : decode cX8_run 53 = .ok (.bastore, 1) := by decide +kernel
theorem dX8_run_54 : decode cX8_run 54 = .ok (.aload_n 0, 1) := by decide +kernel
theorem dX8_run_55 : decode cX8_run 55 = .ok (.getfield 56, 3) := by decide +kernel
theorem dX8_run_58 : decode cX8_run 58 = .ok (.iload_n 1, 1) := by decide +kernel
theorem dX8_run_59 : decode cX8_run 59 = .ok (.iconst 0, 1) := by decide +kernel
theorem dX8_run_60 : decode cX8_run 60 = .ok (.iastore, 1) := by decide +kernel
theorem dX8_run_61 : decode cX8_run 61 = .ok (.aload_n 0, 1) := by decide +kernel
theorem dX8_run_62 : decode cX8_run 62 = .ok (.getfield 59, 3) := by decide +kernel
theorem dX8_run_65 : decode cX8_run 65 = .ok (.iload_n 1, 1) := by decide +kernel
theorem dX8_run_66 : decode cX8_run 66 = .ok (.iconst (-1), 1) := by decide +kernel
theorem dX8_run_67 : decode cX8_run 67 = .ok (.iastore, 1) := by decide +kernel
theorem dX8_run_68 : decode cX8_run 68 = .ok (.aload_n 0, 1) := by decide +kernel
theorem dX8_run_69 : decode cX8_run 69 = .ok (.getfield 62, 3) := by decide +kernel
theorem dX8_run_72 : decode cX8_run 72 = .ok (.iload_n 1, 1) := by decide +kernel
theorem dX8_run_73 : decode cX8_run 73 = .ok (.iconst (-1), 1) := by decide +kernel
theorem dX8_run_74 : decode cX8_run 74 = .ok (.iastore, 1) := by decide +kernel
theorem dX8_run_75 : decode cX8_run 75 = .ok (.aload_n 0, 1) := by decide +kernel
theorem dX8_run_76 : decode cX8_run 76 = .ok (.getfield 65, 3) := by decide +kernel
theorem dX8_run_79 : decode cX8_run 79 = .ok (.iload_n 1, 1) := by decide +kernel
theorem dX8_run_80 : decode cX8_run 80 = .ok (.iconst 0, 1) := by decide +kernel
theorem dX8_run_81 : decode cX8_run 81 = .ok (.iastore, 1) := by decide +kernel
theorem dX8_run_82 : decode cX8_run 82 = .ok (.aload_n 0, 1) := by decide +kernel
theorem dX8_run_83 : decode cX8_run 83 = .ok (.getfield 68, 3) := by decide +kernel
theorem dX8_run_86 : decode cX8_run 86 = .ok (.iload_n 1, 1) := by decide +kernel
theorem dX8_run_87 : decode cX8_run 87 = .ok (.iconst 0, 1) := by decide +kernel
theorem dX8_run_88 : decode cX8_run 88 = .ok (.iastore, 1) := by decide +kernel
theorem dX8_run_89 : decode cX8_run 89 = .ok (.aload_n 0, 1) := by decide +kernel
theorem dX8_run_90 : decode cX8_run 90 = .ok (.iconst 0, 1) := by decide +kernel
theorem dX8_run_91 : decode cX8_run 91 = .ok (.putfield 122, 3) := by decide +kernel
theorem dX8_run_94 : decode cX8_run 94 = .ok (.aload_n 0, 1) := by decide +kernel
theorem dX8_run_95 : decode cX8_run 95 = .ok (.iload_n 3, 1) := by decide +kernel
theorem dX8_run_96 : decode cX8_run 96 = .ok (.invokevirtual 125, 3) := by decide +kernel
theorem dX8_run_99 : decode cX8_run 99 = .ok (.istore 4, 2) := by decide +kernel
theorem dX8_run_101 : decode cX8_run 101 = .ok (.iload 4, 2) := by decide +kernel
theorem dX8_run_103 : decode cX8_run 103 = .ok (.ifCond .ne 142, 3) := by decide +kernel
theorem dX8_run_106 : decode cX8_run 106 = .ok (.aload_n 0, 1) := by decide +kernel
theorem dX8_run_107 : decode cX8_run 107 = .ok (.getfield 122, 3) := by decide +kernel
theorem dX8_run_110 : decode cX8_run 110 = .ok (.ifCond .le 135, 3) := by decide +kernel
theorem dX8_run_113 : decode cX8_run 113 = .ok (.aload_n 0, 1) := by decide +kernel
theorem dX8_run_114 : decode cX8_run 114 = .ok (.getfield 122, 3) := by decide +kernel
theorem dX8_run_117 : decode cX8_run 117 = .ok (.iconst 1, 1) := by decide +kernel
theorem dX8_run_118 : decode cX8_run 118 = .ok (.isub, 1) := by decide +kernel
theorem dX8_run_119 : decode cX8_run 119 = .ok (.istore 5, 2) := by decide +kernel
theorem dX8_run_121 : decode cX8_run 121 = .ok (.aload_n 0, 1) := by decide +kernel
theorem dX8_run_122 : decode cX8_run 122 = .ok (.getfield 81, 3) := by decide +kernel
theorem dX8_run_125 : decode cX8_run 125 = .ok (.iload 5, 2) := by decide +kernel
theorem dX8_run_127 : decode cX8_run 127 = .ok (.iaload, 1) := by decide +kernel
theorem dX8_run_128 : decode cX8_run 128 = .ok (.istore 6, 2) := by decide +kernel
theorem dX8_run_130 : decode cX8_run 130 = .ok (.iload 6, 2) := by decide +kernel
theorem dX8_run_132 : decode cX8_run 132 = .ok (.aload_n 0, 1) := by decide +kernel
theorem dX8_run_133 : decode cX8_run 133 = .ok (.getfield 35, 3) := by decide +kernel
theorem dX8_run_136 : decode cX8_run 136 = .ok (.aload_n 0, 1) := by decide +kernel
theorem dX8_run_137 : decode cX8_run 137 = .ok (.getfield 78, 3) := by decide +kernel
theorem dX8_run_140 : decode cX8_run 140 = .ok (.iload 5, 2) := by decide +kernel
theorem dX8_run_142 : decode cX8_run 142 = .ok (.iaload, 1) := by decide +kernel
theorem dX8_run_143 : decode cX8_run 143 = .ok (.iaload, 1) := by decide +kernel
theorem dX8_run_144 : decode cX8_run 144 = .ok (.if_icmp .le 16, 3) := by decide +kernel
theorem dX8_run_147 : decode cX8_run 147 = .ok (.aload_n 0, 1) := by decide +kernel
theorem dX8_run_148 : decode cX8_run 148 = .ok (.dup, 1) := by decide +kernel
theorem dX8_run_149 : decode cX8_run 149 = .ok (.getfield 122, 3) := by decide +kernel
theorem dX8_run_152 : decode cX8_run 152 = .ok (.iconst 1, 1) := by decide +kernel
theorem dX8_run_153 : decode cX8_run 153 = .ok (.isub, 1) := by decide +kernel
theorem dX8_run_154 : decode cX8_run 154 = .ok (.putfield 122, 3) := by decide +kernel
theorem dX8_run_157 : decode cX8_run 157 = .ok (.goto (-56), 3) := by decide +kernel
theorem dX8_run_160 : decode cX8_run 160 = .ok (.aload_n 0, 1) := by decide +kernel
theorem dX8_run_161 : decode cX8_run 161 = .ok (.getfield 59, 3) := by decide +kernel
theorem dX8_run_164 : decode cX8_run 164 = .ok (.iload_n 1, 1) := by decide +kernel
theorem dX8_run_165 : decode cX8_run 165 = .ok (.aload_n 0, 1) := by decide +kernel
theorem dX8_run_166 : decode cX8_run 166 = .ok (.getfield 32, 3) := by decide +kernel
theorem dX8_run_169 : decode cX8_run 169 = .ok (.aload_n 0, 1) := by decide +kernel
theorem dX8_run_170 : decode cX8_run 170 = .ok (.getfield 78, 3) := by decide +kernel
theorem dX8_run_173 : decode cX8_run 173 = .ok (.iload 5, 2) := by decide +kernel
theorem dX8_run_175 : decode cX8_run 175 = .ok (.iaload, 1) := by decide +kernel
theorem dX8_run_176 : decode cX8_run 176 = .ok (.iaload, 1) := by decide +kernel
theorem dX8_run_177 : decode cX8_run 177 = .ok (.iastore, 1) := by decide +kernel
theorem dX8_run_178 : decode cX8_run 178 = .ok (.aload_n 0, 1) := by decide +kernel
theorem dX8_run_179 : decode cX8_run 179 = .ok (.getfield 81, 3) := by decide +kernel
theorem dX8_run_182 : decode cX8_run 182 = .ok (.iload 5, 2) := by decide +kernel
theorem dX8_run_184 : decode cX8_run 184 = .ok (.iload 6, 2) := by decide +kernel
theorem dX8_run_186 : decode cX8_run 186 = .ok (.iconst 1, 1) := by decide +kernel
theorem dX8_run_187 : decode cX8_run 187 = .ok (.iadd, 1) := by decide +kernel
theorem dX8_run_188 : decode cX8_run 188 = .ok (.iastore, 1) := by decide +kernel
theorem dX8_run_189 : decode cX8_run 189 = .ok (.aload_n 0, 1) := by decide +kernel
theorem dX8_run_190 : decode cX8_run 190 = .ok (.getfield 65, 3) := by decide +kernel
theorem dX8_run_193 : decode cX8_run 193 = .ok (.iload_n 1, 1) := by decide +kernel
theorem dX8_run_194 : decode cX8_run 194 = .ok (.iaload, 1) := by decide +kernel
theorem dX8_run_195 : decode cX8_run 195 = .ok (.sipush 1000, 3) := by decide +kernel
theorem dX8_run_198 : decode cX8_run 198 = .ok (.if_icmp .ne 8, 3) := by decide +kernel
theorem dX8_run_201 : decode cX8_run 201 = .ok (.bipush 7, 2) := by decide +kernel
theorem dX8_run_203 : decode cX8_run 203 = .ok (.goto 4, 3) := by decide +kernel
theorem dX8_run_206 : decode cX8_run 206 = .ok (.iconst 0, 1) := by decide +kernel
theorem dX8_run_207 : decode cX8_run 207 = .ok (.istore 4, 2) := by decide +kernel
theorem dX8_run_209 : decode cX8_run 209 = .ok (.iload 4, 2) := by decide +kernel
theorem dX8_run_211 : decode cX8_run 211 = .ok (.ifCond .le 6, 3) := by decide +kernel
theorem dX8_run_214 : decode cX8_run 214 = .ok (.goto (-113), 3) := by decide +kernel
theorem dX8_run_217 : decode cX8_run 217 = .ok (.aload_n 0, 1) := by decide +kernel
theorem dX8_run_218 : decode cX8_run 218 = .ok (.getfield 65, 3) := by decide +kernel
theorem dX8_run_221 : decode cX8_run 221 = .ok (.iload_n 1, 1) := by decide +kernel
theorem dX8_run_222 : decode cX8_run 222 = .ok (.dup2, 1) := by decide +kernel
theorem dX8_run_223 : decode cX8_run 223 = .ok (.iaload, 1) := by decide +kernel
theorem dX8_run_224 : decode cX8_run 224 = .ok (.iconst 1, 1) := by decide +kernel
theorem dX8_run_225 : decode cX8_run 225 = .ok (.iadd, 1) := by decide +kernel
theorem dX8_run_226 : decode cX8_run 226 = .ok (.iastore, 1) := by decide +kernel
theorem dX8_run_227 : decode cX8_run 227 = .ok (.aload_n 0, 1) := by decide +kernel
theorem dX8_run_228 : decode cX8_run 228 = .ok (.aload_n 0, 1) := by decide +kernel
theorem dX8_run_229 : decode cX8_run 229 = .ok (.getfield 78, 3) := by decide +kernel
theorem dX8_run_232 : decode cX8_run 232 = .ok (.iload 5, 2) := by decide +kernel
theorem dX8_run_234 : decode cX8_run 234 = .ok (.iaload, 1) := by decide +kernel
theorem dX8_run_235 : decode cX8_run 235 = .ok (.iload 6, 2) := by decide +kernel
theorem dX8_run_237 : decode cX8_run 237 = .ok (.invokevirtual 132, 3) := by decide +kernel
theorem dX8_run_240 : decode cX8_run 240 = .ok (.istore 4, 2) := by decide +kernel
theorem dX8_run_242 : decode cX8_run 242 = .ok (.goto (-141), 3) := by decide +kernel
theorem dX8_run_245 : decode cX8_run 245 = .ok (.iload 4, 2) := by decide +kernel
theorem dX8_run_247 : decode cX8_run 247 = .ok (.iconst 5, 1) := by decide +kernel
theorem dX8_run_248 : decode cX8_run 248 = .ok (.if_icmp .ne 25, 3) := by decide +kernel
theorem dX8_run_251 : decode cX8_run 251 = .ok (.aload_n 0, 1) := by decide +kernel
theorem dX8_run_252 : decode cX8_run 252 = .ok (.getfield 59, 3) := by decide +kernel
theorem dX8_run_255 : decode cX8_run 255 = .ok (.iload_n 1, 1) := by decide +kernel
theorem dX8_run_256 : decode cX8_run 256 = .ok (.aload_n 0, 1) := by decide +kernel
theorem dX8_run_257 : decode cX8_run 257 = .ok (.getfield 32, 3) := by decide +kernel
theorem dX8_run_260 : decode cX8_run 260 = .ok (.aload_n 0, 1) := by decide +kernel
theorem dX8_run_261 : decode cX8_run 261 = .ok (.getfield 78, 3) := by decide +kernel
theorem dX8_run_264 : decode cX8_run 264 = .ok (.aload_n 0, 1) := by decide +kernel
theorem dX8_run_265 : decode cX8_run 265 = .ok (.getfield 122, 3) := by decide +kernel
theorem dX8_run_268 : decode cX8_run 268 = .ok (.iconst 1, 1) := by decide +kernel
theorem dX8_run_269 : decode cX8_run 269 = .ok (.isub, 1) := by decide +kernel
theorem dX8_run_270 : decode cX8_run 270 = .ok (.iaload, 1) := by decide +kernel
theorem dX8_run_271 : decode cX8_run 271 = .ok (.iaload, 1) := by decide +kernel
theorem dX8_run_272 : decode cX8_run 272 = .ok (.iastore, 1) := by decide +kernel
theorem dX8_run_273 : decode cX8_run 273 = .ok (.iload 4, 2) := by decide +kernel
theorem dX8_run_275 : decode cX8_run 275 = .ok (.ifCond .ne 10, 3) := by decide +kernel
theorem dX8_run_278 : decode cX8_run 278 = .ok (.aload_n 0, 1) := by decide +kernel
theorem dX8_run_279 : decode cX8_run 279 = .ok (.getfield 59, 3) := by decide +kernel
theorem dX8_run_282 : decode cX8_run 282 = .ok (.iload_n 1, 1) := by decide +kernel
theorem dX8_run_283 : decode cX8_run 283 = .ok (.iconst (-1), 1) := by decide +kernel
theorem dX8_run_284 : decode cX8_run 284 = .ok (.iastore, 1) := by decide +kernel
theorem dX8_run_285 : decode cX8_run 285 = .ok (.aload_n 0, 1) := by decide +kernel
theorem dX8_run_286 : decode cX8_run 286 = .ok (.getfield 56, 3) := by decide +kernel
theorem dX8_run_289 : decode cX8_run 289 = .ok (.iload_n 1, 1) := by decide +kernel
theorem dX8_run_290 : decode cX8_run 290 = .ok (.iload 4, 2) := by decide +kernel
theorem dX8_run_292 : decode cX8_run 292 = .ok (.bipush 99, 2) := by decide +kernel
theorem dX8_run_294 : decode cX8_run 294 = .ok (.if_icmp .ne 7, 3) := by decide +kernel
theorem dX8_run_297 : decode cX8_run 297 = .ok (.iconst 0, 1) := by decide +kernel
theorem dX8_run_298 : decode cX8_run 298 = .ok (.goto 5, 3) := by decide +kernel
theorem dX8_run_301 : decode cX8_run 301 = .ok (.iload 4, 2) := by decide +kernel
theorem dX8_run_303 : decode cX8_run 303 = .ok (.iastore, 1) := by decide +kernel
theorem dX8_run_304 : decode cX8_run 304 = .ok (.iload 4, 2) := by decide +kernel
theorem dX8_run_306 : decode cX8_run 306 = .ok (.ifCond .eq 10, 3) := by decide +kernel
theorem dX8_run_309 : decode cX8_run 309 = .ok (.iload 4, 2) := by decide +kernel
theorem dX8_run_311 : decode cX8_run 311 = .ok (.bipush 99, 2) := by decide +kernel
theorem dX8_run_313 : decode cX8_run 313 = .ok (.if_icmp .ne 7, 3) := by decide +kernel
theorem dX8_run_316 : decode cX8_run 316 = .ok (.iconst 1, 1) := by decide +kernel
theorem dX8_run_317 : decode cX8_run 317 = .ok (.goto 4, 3) := by decide +kernel
theorem dX8_run_320 : decode cX8_run 320 = .ok (.iconst 2, 1) := by decide +kernel
theorem dX8_run_321 : decode cX8_run 321 = .ok (.ireturn, 1) := by decide +kernel
theorem dX8_at_0 : decode cX8_at 0 = .ok (.aload_n 0, 1) := by decide +kernel
theorem dX8_at_1 : decode cX8_at 1 = .ok (.iload_n 1, 1) := by decide +kernel
theorem dX8_at_2 : decode cX8_at 2 = .ok (.invokevirtual 116, 3) := by decide +kernel
theorem dX8_at_5 : decode cX8_at 5 = .ok (.ifCond .eq 52, 3) := by decide +kernel
theorem dX8_at_8 : decode cX8_at 8 = .ok (.aload_n 0, 1) := by decide +kernel
theorem dX8_at_9 : decode cX8_at 9 = .ok (.iload_n 2, 1) := by decide +kernel
theorem dX8_at_10 : decode cX8_at 10 = .ok (.invokevirtual 101, 3) := by decide +kernel
theorem dX8_at_13 : decode cX8_at 13 = .ok (.ifCond .eq 44, 3) := by decide +kernel
theorem dX8_at_16 : decode cX8_at 16 = .ok (.aload_n 0, 1) := by decide +kernel
theorem dX8_at_17 : decode cX8_at 17 = .ok (.iload_n 1, 1) := by decide +kernel
theorem dX8_at_18 : decode cX8_at 18 = .ok (.iload_n 2, 1) := by decide +kernel
theorem dX8_at_19 : decode cX8_at 19 = .ok (.invokevirtual 109, 3) := by decide +kernel
theorem dX8_at_22 : decode cX8_at 22 = .ok (.ifCond .le 35, 3) := by decide +kernel
theorem dX8_at_25 : decode cX8_at 25 = .ok (.aload_n 0, 1) := by decide +kernel
theorem dX8_at_26 : decode cX8_at 26 = .ok (.getfield 41, 3) := by decide +kernel
theorem dX8_at_29 : decode cX8_at 29 = .ok (.aload_n 0, 1) := by decide +kernel
theorem dX8_at_30 : decode cX8_at 30 = .ok (.iload_n 1, 1) := by decide +kernel
theorem dX8_at_31 : decode cX8_at 31 = .ok (.iload_n 2, 1) := by decide +kernel
theorem dX8_at_32 : decode cX8_at 32 = .ok (.invokevirtual 109, 3) := by decide +kernel
theorem dX8_at_35 : decode cX8_at 35 = .ok (.baload, 1) := by decide +kernel
theorem dX8_at_36 : decode cX8_at 36 = .ok (.ifCond .eq 21, 3) := by decide +kernel
theorem dX8_at_39 : decode cX8_at 39 = .ok (.iload_n 3, 1) := by decide +kernel
theorem dX8_at_40 : decode cX8_at 40 = .ok (.ifCond .lt 17, 3) := by decide +kernel
theorem dX8_at_43 : decode cX8_at 43 = .ok (.iload_n 3, 1) := by decide +kernel
theorem dX8_at_44 : decode cX8_at 44 = .ok (.aload_n 0, 1) := by decide +kernel
theorem dX8_at_45 : decode cX8_at 45 = .ok (.getfield 7, 3) := by decide +kernel
theorem dX8_at_48 : decode cX8_at 48 = .ok (.iload_n 2, 1) := by decide +kernel
theorem dX8_at_49 : decode cX8_at 49 = .ok (.iaload, 1) := by decide +kernel
theorem dX8_at_50 : decode cX8_at 50 = .ok (.if_icmp .ge 7, 3) := by decide +kernel
theorem dX8_at_53 : decode cX8_at 53 = .ok (.iconst 1, 1) := by decide +kernel
theorem dX8_at_54 : decode cX8_at 54 = .ok (.goto 4, 3) := by decide +kernel
theorem dX8_at_57 : decode cX8_at 57 = .ok (.iconst 0, 1) := by decide +kernel
theorem dX8_at_58 : decode cX8_at 58 = .ok (.istore 4, 2) := by decide +kernel
theorem dX8_at_60 : decode cX8_at 60 = .ok (.aload_n 0, 1) := by decide +kernel
theorem dX8_at_61 : decode cX8_at 61 = .ok (.iload 4, 2) := by decide +kernel
theorem dX8_at_63 : decode cX8_at 63 = .ok (.ifCond .eq 7, 3) := by decide +kernel
theorem dX8_at_66 : decode cX8_at 66 = .ok (.iconst 0, 1) := by decide +kernel
theorem dX8_at_67 : decode cX8_at 67 = .ok (.goto 4, 3) := by decide +kernel
theorem dX8_at_70 : decode cX8_at 70 = .ok (.iconst 1, 1) := by decide +kernel
theorem dX8_at_71 : decode cX8_at 71 = .ok (.putfield 87, 3) := by decide +kernel
theorem dX8_at_74 : decode cX8_at 74 = .ok (.iload 4, 2) := by decide +kernel
theorem dX8_at_76 : decode cX8_at 76 = .ok (.ifCond .eq 30, 3) := by decide +kernel
theorem dX8_at_79 : decode cX8_at 79 = .ok (.aload_n 0, 1) := by decide +kernel
theorem dX8_at_80 : decode cX8_at 80 = .ok (.getfield 71, 3) := by decide +kernel
theorem dX8_at_83 : decode cX8_at 83 = .ok (.sipush 1200, 3) := by decide +kernel
theorem dX8_at_86 : decode cX8_at 86 = .ok (.iload_n 1, 1) := by decide +kernel
theorem dX8_at_87 : decode cX8_at 87 = .ok (.imul, 1) := by decide +kernel
theorem dX8_at_88 : decode cX8_at 88 = .ok (.sipush 1200, 3) := by decide +kernel
theorem dX8_at_91 : decode cX8_at 91 = .ok (.isub, 1) := by decide +kernel
theorem dX8_at_92 : decode cX8_at 92 = .ok (.bipush 100, 2) := by decide +kernel
theorem dX8_at_94 : decode cX8_at 94 = .ok (.iload_n 2, 1) := by decide +kernel
theorem dX8_at_95 : decode cX8_at 95 = .ok (.imul, 1) := by decide +kernel
theorem dX8_at_96 : decode cX8_at 96 = .ok (.iadd, 1) := by decide +kernel
theorem dX8_at_97 : decode cX8_at 97 = .ok (.bipush 100, 2) := by decide +kernel
theorem dX8_at_99 : decode cX8_at 99 = .ok (.isub, 1) := by decide +kernel
theorem dX8_at_100 : decode cX8_at 100 = .ok (.iload_n 3, 1) := by decide +kernel
theorem dX8_at_101 : decode cX8_at 101 = .ok (.iadd, 1) := by decide +kernel
theorem dX8_at_102 : decode cX8_at 102 = .ok (.baload, 1) := by decide +kernel
theorem dX8_at_103 : decode cX8_at 103 = .ok (.goto 4, 3) := by decide +kernel
theorem dX8_at_106 : decode cX8_at 106 = .ok (.iconst 0, 1) := by decide +kernel
theorem dX8_at_107 : decode cX8_at 107 = .ok (.ireturn, 1) := by decide +kernel
theorem dX8_raised_0 : decode cX8_raised 0 = .ok (.aload_n 0, 1) := by decide +kernel
theorem dX8_raised_1 : decode cX8_raised 1 = .ok (.iconst 0, 1) := by decide +kernel
theorem dX8_raised_2 : decode cX8_raised 2 = .ok (.putfield 87, 3) := by decide +kernel
theorem dX8_raised_5 : decode cX8_raised 5 = .ok (.aload_n 0, 1) := by decide +kernel
theorem dX8_raised_6 : decode cX8_raised 6 = .ok (.iload_n 1, 1) := by decide +kernel
theorem dX8_raised_7 : decode cX8_raised 7 = .ok (.invokevirtual 116, 3) := by decide +kernel
theorem dX8_raised_10 : decode cX8_raised 10 = .ok (.ifCond .eq 12, 3) := by decide +kernel
theorem dX8_raised_13 : decode cX8_raised 13 = .ok (.aload_n 0, 1) := by decide +kernel
theorem dX8_raised_14 : decode cX8_raised 14 = .ok (.getfield 56, 3) := by decide +kernel
theorem dX8_raised_17 : decode cX8_raised 17 = .ok (.iload_n 1, 1) := by decide +kernel
theorem dX8_raised_18 : decode cX8_raised 18 = .ok (.iaload, 1) := by decide +kernel
theorem dX8_raised_19 : decode cX8_raised 19 = .ok (.goto 5, 3) := by decide +kernel
theorem dX8_raised_22 : decode cX8_raised 22 = .ok (.bipush (-2), 2) := by decide +kernel
theorem dX8_raised_24 : decode cX8_raised 24 = .ok (.ireturn, 1) := by decide +kernel
theorem dX8_told_0 : decode cX8_told 0 = .ok (.aload_n 0, 1) := by decide +kernel
theorem dX8_told_1 : decode cX8_told 1 = .ok (.iconst 0, 1) := by decide +kernel
theorem dX8_told_2 : decode cX8_told 2 = .ok (.putfield 87, 3) := by decide +kernel
theorem dX8_told_5 : decode cX8_told 5 = .ok (.aload_n 0, 1) := by decide +kernel
theorem dX8_told_6 : decode cX8_told 6 = .ok (.iload_n 1, 1) := by decide +kernel
theorem dX8_told_7 : decode cX8_told 7 = .ok (.invokevirtual 116, 3) := by decide +kernel
theorem dX8_told_10 : decode cX8_told 10 = .ok (.ifCond .ne 6, 3) := by decide +kernel
theorem dX8_told_13 : decode cX8_told 13 = .ok (.bipush (-2), 2) := by decide +kernel
theorem dX8_told_15 : decode cX8_told 15 = .ok (.ireturn, 1) := by decide +kernel
theorem dX8_told_16 : decode cX8_told 16 = .ok (.aload_n 0, 1) := by decide +kernel
theorem dX8_told_17 : decode cX8_told 17 = .ok (.getfield 50, 3) := by decide +kernel
theorem dX8_told_20 : decode cX8_told 20 = .ok (.iload_n 1, 1) := by decide +kernel
theorem dX8_told_21 : decode cX8_told 21 = .ok (.baload, 1) := by decide +kernel
theorem dX8_told_22 : decode cX8_told 22 = .ok (.ifCond .ne 5, 3) := by decide +kernel
theorem dX8_told_25 : decode cX8_told 25 = .ok (.iconst (-1), 1) := by decide +kernel
theorem dX8_told_26 : decode cX8_told 26 = .ok (.ireturn, 1) := by decide +kernel
theorem dX8_told_27 : decode cX8_told 27 = .ok (.iload_n 2, 1) := by decide +kernel
theorem dX8_told_28 : decode cX8_told 28 = .ok (.tableswitch 60 0 3 #[32, 39, 46, 53], 32) := by decide +kernel
theorem dX8_told_60 : decode cX8_told 60 = .ok (.aload_n 0, 1) := by decide +kernel
theorem dX8_told_61 : decode cX8_told 61 = .ok (.getfield 59, 3) := by decide +kernel
theorem dX8_told_64 : decode cX8_told 64 = .ok (.iload_n 1, 1) := by decide +kernel
theorem dX8_told_65 : decode cX8_told 65 = .ok (.iaload, 1) := by decide +kernel
theorem dX8_told_66 : decode cX8_told 66 = .ok (.ireturn, 1) := by decide +kernel
theorem dX8_told_67 : decode cX8_told 67 = .ok (.aload_n 0, 1) := by decide +kernel
theorem dX8_told_68 : decode cX8_told 68 = .ok (.getfield 62, 3) := by decide +kernel
theorem dX8_told_71 : decode cX8_told 71 = .ok (.iload_n 1, 1) := by decide +kernel
theorem dX8_told_72 : decode cX8_told 72 = .ok (.iaload, 1) := by decide +kernel
theorem dX8_told_73 : decode cX8_told 73 = .ok (.ireturn, 1) := by decide +kernel
theorem dX8_told_74 : decode cX8_told 74 = .ok (.aload_n 0, 1) := by decide +kernel
theorem dX8_told_75 : decode cX8_told 75 = .ok (.getfield 65, 3) := by decide +kernel
theorem dX8_told_78 : decode cX8_told 78 = .ok (.iload_n 1, 1) := by decide +kernel
theorem dX8_told_79 : decode cX8_told 79 = .ok (.iaload, 1) := by decide +kernel
theorem dX8_told_80 : decode cX8_told 80 = .ok (.ireturn, 1) := by decide +kernel
theorem dX8_told_81 : decode cX8_told 81 = .ok (.aload_n 0, 1) := by decide +kernel
theorem dX8_told_82 : decode cX8_told 82 = .ok (.getfield 68, 3) := by decide +kernel
theorem dX8_told_85 : decode cX8_told 85 = .ok (.iload_n 1, 1) := by decide +kernel
theorem dX8_told_86 : decode cX8_told 86 = .ok (.iaload, 1) := by decide +kernel
theorem dX8_told_87 : decode cX8_told 87 = .ok (.ireturn, 1) := by decide +kernel
theorem dX8_told_88 : decode cX8_told 88 = .ok (.iconst (-1), 1) := by decide +kernel
theorem dX8_told_89 : decode cX8_told 89 = .ok (.ireturn, 1) := by decide +kernel
