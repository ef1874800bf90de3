theorem d_KS_init_0 : decode b_KS_init 0 = .ok (.aload_n 0, 1) := by decide +kernel
theorem d_KS_init_1 : decode b_KS_init 1 = .ok (.invokespecial 3, 3) := by decide +kernel
theorem d_KS_init_4 : decode b_KS_init 4 = .ok (.aload_n 0, 1) := by decide +kernel
theorem d_KS_init_5 : decode b_KS_init 5 = .ok (.aload_n 1, 1) := by decide +kernel
theorem d_KS_init_6 : decode b_KS_init 6 = .ok (.putfield 9, 3) := by decide +kernel
theorem d_KS_init_9 : decode b_KS_init 9 = .ok (.aload_n 0, 1) := by decide +kernel
theorem d_KS_init_10 : decode b_KS_init 10 = .ok (.aload_n 2, 1) := by decide +kernel
theorem d_KS_init_11 : decode b_KS_init 11 = .ok (.putfield 15, 3) := by decide +kernel
theorem d_KS_init_14 : decode b_KS_init 14 = .ok (.aload_n 0, 1) := by decide +kernel
theorem d_KS_init_15 : decode b_KS_init 15 = .ok (.aload_n 3, 1) := by decide +kernel
theorem d_KS_init_16 : decode b_KS_init 16 = .ok (.putfield 19, 3) := by decide +kernel
theorem d_KS_init_19 : decode b_KS_init 19 = .ok (.return_, 1) := by decide +kernel
theorem d_KS_run_0 : decode b_KS_run 0 = .ok (.aload_n 0, 1) := by decide +kernel
theorem d_KS_run_1 : decode b_KS_run 1 = .ok (.getfield 19, 3) := by decide +kernel
theorem d_KS_run_4 : decode b_KS_run 4 = .ok (.aload_n 0, 1) := by decide +kernel
theorem d_KS_run_5 : decode b_KS_run 5 = .ok (.getfield 15, 3) := by decide +kernel
theorem d_KS_run_8 : decode b_KS_run 8 = .ok (.getfield 23, 3) := by decide +kernel
theorem d_KS_run_11 : decode b_KS_run 11 = .ok (.invokevirtual 29, 3) := by decide +kernel
theorem d_KS_run_14 : decode b_KS_run 14 = .ok (.aload_n 0, 1) := by decide +kernel
theorem d_KS_run_15 : decode b_KS_run 15 = .ok (.iconst 0, 1) := by decide +kernel
theorem d_KS_run_16 : decode b_KS_run 16 = .ok (.putfield 35, 3) := by decide +kernel
theorem d_KS_run_19 : decode b_KS_run 19 = .ok (.aload_n 0, 1) := by decide +kernel
theorem d_KS_run_20 : decode b_KS_run 20 = .ok (.iconst 0, 1) := by decide +kernel
theorem d_KS_run_21 : decode b_KS_run 21 = .ok (.putfield 38, 3) := by decide +kernel
theorem d_KS_run_24 : decode b_KS_run 24 = .ok (.iconst 0, 1) := by decide +kernel
theorem d_KS_run_25 : decode b_KS_run 25 = .ok (.istore_n 1, 1) := by decide +kernel
theorem d_KS_run_26 : decode b_KS_run 26 = .ok (.iload_n 1, 1) := by decide +kernel
theorem d_KS_run_27 : decode b_KS_run 27 = .ok (.sipush 512, 3) := by decide +kernel
theorem d_KS_run_30 : decode b_KS_run 30 = .ok (.if_icmp .ge 45, 3) := by decide +kernel
theorem d_KS_run_33 : decode b_KS_run 33 = .ok (.aload_n 0, 1) := by decide +kernel
theorem d_KS_run_34 : decode b_KS_run 34 = .ok (.getfield 9, 3) := by decide +kernel
theorem d_KS_run_37 : decode b_KS_run 37 = .ok (.iload_n 1, 1) := by decide +kernel
theorem d_KS_run_38 : decode b_KS_run 38 = .ok (.iload_n 1, 1) := by decide +kernel
theorem d_KS_run_39 : decode b_KS_run 39 = .ok (.bipush 16, 2) := by decide +kernel
theorem d_KS_run_41 : decode b_KS_run 41 = .ok (.iadd, 1) := by decide +kernel
theorem d_KS_run_42 : decode b_KS_run 42 = .ok (.invokevirtual 41, 3) := by decide +kernel
theorem d_KS_run_45 : decode b_KS_run 45 = .ok (.istore_n 2, 1) := by decide +kernel
theorem d_KS_run_46 : decode b_KS_run 46 = .ok (.iload_n 2, 1) := by decide +kernel
theorem d_KS_run_47 : decode b_KS_run 47 = .ok (.sipush (-1001), 3) := by decide +kernel
theorem d_KS_run_50 : decode b_KS_run 50 = .ok (.if_icmp .eq 19, 3) := by decide +kernel
theorem d_KS_run_53 : decode b_KS_run 53 = .ok (.aload_n 0, 1) := by decide +kernel
theorem d_KS_run_54 : decode b_KS_run 54 = .ok (.dup, 1) := by decide +kernel
theorem d_KS_run_55 : decode b_KS_run 55 = .ok (.getfield 35, 3) := by decide +kernel
theorem d_KS_run_58 : decode b_KS_run 58 = .ok (.iconst 1, 1) := by decide +kernel
theorem d_KS_run_59 : decode b_KS_run 59 = .ok (.iadd, 1) := by decide +kernel
theorem d_KS_run_60 : decode b_KS_run 60 = .ok (.putfield 35, 3) := by decide +kernel
theorem d_KS_run_63 : decode b_KS_run 63 = .ok (.aload_n 0, 1) := by decide +kernel
theorem d_KS_run_64 : decode b_KS_run 64 = .ok (.iload_n 1, 1) := by decide +kernel
theorem d_KS_run_65 : decode b_KS_run 65 = .ok (.iload_n 2, 1) := by decide +kernel
theorem d_KS_run_66 : decode b_KS_run 66 = .ok (.invokevirtual 47, 3) := by decide +kernel
theorem d_KS_run_69 : decode b_KS_run 69 = .ok (.iinc 1 16, 3) := by decide +kernel
theorem d_KS_run_72 : decode b_KS_run 72 = .ok (.goto (-46), 3) := by decide +kernel
theorem d_KS_run_75 : decode b_KS_run 75 = .ok (.return_, 1) := by decide +kernel
theorem d_KS_goThrough_0 : decode b_KS_goThrough 0 = .ok (.aload_n 0, 1) := by decide +kernel
theorem d_KS_goThrough_1 : decode b_KS_goThrough 1 = .ok (.getfield 19, 3) := by decide +kernel
theorem d_KS_goThrough_4 : decode b_KS_goThrough 4 = .ok (.invokevirtual 51, 3) := by decide +kernel
theorem d_KS_goThrough_7 : decode b_KS_goThrough 7 = .ok (.ifCond .eq 25, 3) := by decide +kernel
theorem d_KS_goThrough_10 : decode b_KS_goThrough 10 = .ok (.iload_n 2, 1) := by decide +kernel
theorem d_KS_goThrough_11 : decode b_KS_goThrough 11 = .ok (.aload_n 0, 1) := by decide +kernel
theorem d_KS_goThrough_12 : decode b_KS_goThrough 12 = .ok (.getfield 19, 3) := by decide +kernel
theorem d_KS_goThrough_15 : decode b_KS_goThrough 15 = .ok (.invokevirtual 55, 3) := by decide +kernel
theorem d_KS_goThrough_18 : decode b_KS_goThrough 18 = .ok (.if_icmp .gt 14, 3) := by decide +kernel
theorem d_KS_goThrough_21 : decode b_KS_goThrough 21 = .ok (.aload_n 0, 1) := by decide +kernel
theorem d_KS_goThrough_22 : decode b_KS_goThrough 22 = .ok (.dup, 1) := by decide +kernel
theorem d_KS_goThrough_23 : decode b_KS_goThrough 23 = .ok (.getfield 38, 3) := by decide +kernel
theorem d_KS_goThrough_26 : decode b_KS_goThrough 26 = .ok (.iconst 1, 1) := by decide +kernel
theorem d_KS_goThrough_27 : decode b_KS_goThrough 27 = .ok (.iadd, 1) := by decide +kernel
theorem d_KS_goThrough_28 : decode b_KS_goThrough 28 = .ok (.putfield 38, 3) := by decide +kernel
theorem d_KS_goThrough_31 : decode b_KS_goThrough 31 = .ok (.return_, 1) := by decide +kernel
theorem d_KS_goThrough_32 : decode b_KS_goThrough 32 = .ok (.iload_n 1, 1) := by decide +kernel
theorem d_KS_goThrough_33 : decode b_KS_goThrough 33 = .ok (.istore_n 3, 1) := by decide +kernel
theorem d_KS_goThrough_34 : decode b_KS_goThrough 34 = .ok (.iload_n 3, 1) := by decide +kernel
theorem d_KS_goThrough_35 : decode b_KS_goThrough 35 = .ok (.iload_n 1, 1) := by decide +kernel
theorem d_KS_goThrough_36 : decode b_KS_goThrough 36 = .ok (.bipush 16, 2) := by decide +kernel
theorem d_KS_goThrough_38 : decode b_KS_goThrough 38 = .ok (.iadd, 1) := by decide +kernel
theorem d_KS_goThrough_39 : decode b_KS_goThrough 39 = .ok (.if_icmp .ge 51, 3) := by decide +kernel
theorem d_KS_goThrough_42 : decode b_KS_goThrough 42 = .ok (.aload_n 0, 1) := by decide +kernel
theorem d_KS_goThrough_43 : decode b_KS_goThrough 43 = .ok (.getfield 15, 3) := by decide +kernel
theorem d_KS_goThrough_46 : decode b_KS_goThrough 46 = .ok (.iload_n 3, 1) := by decide +kernel
theorem d_KS_goThrough_47 : decode b_KS_goThrough 47 = .ok (.invokevirtual 59, 3) := by decide +kernel
theorem d_KS_goThrough_50 : decode b_KS_goThrough 50 = .ok (.ifCond .eq 34, 3) := by decide +kernel
theorem d_KS_goThrough_53 : decode b_KS_goThrough 53 = .ok (.aload_n 0, 1) := by decide +kernel
theorem d_KS_goThrough_54 : decode b_KS_goThrough 54 = .ok (.getfield 9, 3) := by decide +kernel
theorem d_KS_goThrough_57 : decode b_KS_goThrough 57 = .ok (.getfield 63, 3) := by decide +kernel
theorem d_KS_goThrough_60 : decode b_KS_goThrough 60 = .ok (.iload_n 3, 1) := by decide +kernel
theorem d_KS_goThrough_61 : decode b_KS_goThrough 61 = .ok (.iaload, 1) := by decide +kernel
theorem d_KS_goThrough_62 : decode b_KS_goThrough 62 = .ok (.istore 4, 2) := by decide +kernel
theorem d_KS_goThrough_64 : decode b_KS_goThrough 64 = .ok (.aload_n 0, 1) := by decide +kernel
theorem d_KS_goThrough_65 : decode b_KS_goThrough 65 = .ok (.getfield 19, 3) := by decide +kernel
theorem d_KS_goThrough_68 : decode b_KS_goThrough 68 = .ok (.iload_n 3, 1) := by decide +kernel
theorem d_KS_goThrough_69 : decode b_KS_goThrough 69 = .ok (.iload 4, 2) := by decide +kernel
theorem d_KS_goThrough_71 : decode b_KS_goThrough 71 = .ok (.aload_n 0, 1) := by decide +kernel
theorem d_KS_goThrough_72 : decode b_KS_goThrough 72 = .ok (.getfield 15, 3) := by decide +kernel
theorem d_KS_goThrough_75 : decode b_KS_goThrough 75 = .ok (.iload_n 3, 1) := by decide +kernel
theorem d_KS_goThrough_76 : decode b_KS_goThrough 76 = .ok (.invokevirtual 67, 3) := by decide +kernel
theorem d_KS_goThrough_79 : decode b_KS_goThrough 79 = .ok (.iload 4, 2) := by decide +kernel
theorem d_KS_goThrough_81 : decode b_KS_goThrough 81 = .ok (.invokevirtual 71, 3) := by decide +kernel
theorem d_KS_goThrough_84 : decode b_KS_goThrough 84 = .ok (.iinc 3 1, 3) := by decide +kernel
theorem d_KS_goThrough_87 : decode b_KS_goThrough 87 = .ok (.goto (-53), 3) := by decide +kernel
theorem d_KS_goThrough_90 : decode b_KS_goThrough 90 = .ok (.return_, 1) := by decide +kernel
theorem d_LW_init_0 : decode b_LW_init 0 = .ok (.aload_n 0, 1) := by decide +kernel
theorem d_LW_init_1 : decode b_LW_init 1 = .ok (.invokespecial 3, 3) := by decide +kernel
theorem d_LW_init_4 : decode b_LW_init 4 = .ok (.aload_n 0, 1) := by decide +kernel
theorem d_LW_init_5 : decode b_LW_init 5 = .ok (.bipush 12, 2) := by decide +kernel
theorem d_LW_init_7 : decode b_LW_init 7 = .ok (.newarray .int, 2) := by decide +kernel
theorem d_LW_init_9 : decode b_LW_init 9 = .ok (.putfield 9, 3) := by decide +kernel
theorem d_LW_init_12 : decode b_LW_init 12 = .ok (.aload_n 0, 1) := by decide +kernel
theorem d_LW_init_13 : decode b_LW_init 13 = .ok (.bipush 12, 2) := by decide +kernel
theorem d_LW_init_15 : decode b_LW_init 15 = .ok (.newarray .int, 2) := by decide +kernel
theorem d_LW_init_17 : decode b_LW_init 17 = .ok (.putfield 15, 3) := by decide +kernel
theorem d_LW_init_20 : decode b_LW_init 20 = .ok (.aload_n 0, 1) := by decide +kernel
theorem d_LW_init_21 : decode b_LW_init 21 = .ok (.aload_n 1, 1) := by decide +kernel
theorem d_LW_init_22 : decode b_LW_init 22 = .ok (.putfield 18, 3) := by decide +kernel
theorem d_LW_init_25 : decode b_LW_init 25 = .ok (.aload_n 0, 1) := by decide +kernel
theorem d_LW_init_26 : decode b_LW_init 26 = .ok (.aload_n 2, 1) := by decide +kernel
theorem d_LW_init_27 : decode b_LW_init 27 = .ok (.putfield 22, 3) := by decide +kernel
theorem d_LW_init_30 : decode b_LW_init 30 = .ok (.aload_n 0, 1) := by decide +kernel
theorem d_LW_init_31 : decode b_LW_init 31 = .ok (.aload_n 3, 1) := by decide +kernel
theorem d_LW_init_32 : decode b_LW_init 32 = .ok (.putfield 26, 3) := by decide +kernel
theorem d_LW_init_35 : decode b_LW_init 35 = .ok (.return_, 1) := by decide +kernel
theorem d_LW_run_0 : decode b_LW_run 0 = .ok (.aload_n 0, 1) := by decide +kernel
theorem d_LW_run_1 : decode b_LW_run 1 = .ok (.invokevirtual 30, 3) := by decide +kernel
theorem d_LW_run_4 : decode b_LW_run 4 = .ok (.aload_n 0, 1) := by decide +kernel
theorem d_LW_run_5 : decode b_LW_run 5 = .ok (.getfield 33, 3) := by decide +kernel
theorem d_LW_run_8 : decode b_LW_run 8 = .ok (.iload_n 1, 1) := by decide +kernel
theorem d_LW_run_9 : decode b_LW_run 9 = .ok (.if_icmp .ge 28, 3) := by decide +kernel
theorem d_LW_run_12 : decode b_LW_run 12 = .ok (.aload_n 0, 1) := by decide +kernel
theorem d_LW_run_13 : decode b_LW_run 13 = .ok (.getfield 37, 3) := by decide +kernel
theorem d_LW_run_16 : decode b_LW_run 16 = .ok (.iconst 2, 1) := by decide +kernel
theorem d_LW_run_17 : decode b_LW_run 17 = .ok (.if_icmp .ne 20, 3) := by decide +kernel
theorem d_LW_run_20 : decode b_LW_run 20 = .ok (.aload_n 0, 1) := by decide +kernel
theorem d_LW_run_21 : decode b_LW_run 21 = .ok (.dup, 1) := by decide +kernel
theorem d_LW_run_22 : decode b_LW_run 22 = .ok (.getfield 33, 3) := by decide +kernel
theorem d_LW_run_25 : decode b_LW_run 25 = .ok (.iconst 1, 1) := by decide +kernel
theorem d_LW_run_26 : decode b_LW_run 26 = .ok (.iadd, 1) := by decide +kernel
theorem d_LW_run_27 : decode b_LW_run 27 = .ok (.putfield 33, 3) := by decide +kernel
theorem d_LW_run_30 : decode b_LW_run 30 = .ok (.aload_n 0, 1) := by decide +kernel
theorem d_LW_run_31 : decode b_LW_run 31 = .ok (.invokevirtual 40, 3) := by decide +kernel
theorem d_LW_run_34 : decode b_LW_run 34 = .ok (.goto (-30), 3) := by decide +kernel
theorem d_LW_run_37 : decode b_LW_run 37 = .ok (.aload_n 0, 1) := by decide +kernel
theorem d_LW_run_38 : decode b_LW_run 38 = .ok (.aload_n 0, 1) := by decide +kernel
theorem d_LW_run_39 : decode b_LW_run 39 = .ok (.invokevirtual 43, 3) := by decide +kernel
theorem d_LW_run_42 : decode b_LW_run 42 = .ok (.putfield 47, 3) := by decide +kernel
theorem d_LW_run_45 : decode b_LW_run 45 = .ok (.aload_n 0, 1) := by decide +kernel
theorem d_LW_run_46 : decode b_LW_run 46 = .ok (.aload_n 0, 1) := by decide +kernel
theorem d_LW_run_47 : decode b_LW_run 47 = .ok (.invokevirtual 50, 3) := by decide +kernel
theorem d_LW_run_50 : decode b_LW_run 50 = .ok (.putfield 53, 3) := by decide +kernel
theorem d_LW_run_53 : decode b_LW_run 53 = .ok (.return_, 1) := by decide +kernel
theorem d_LW_begin_0 : decode b_LW_begin 0 = .ok (.aload_n 0, 1) := by decide +kernel
theorem d_LW_begin_1 : decode b_LW_begin 1 = .ok (.getfield 26, 3) := by decide +kernel
theorem d_LW_begin_4 : decode b_LW_begin 4 = .ok (.aload_n 0, 1) := by decide +kernel
theorem d_LW_begin_5 : decode b_LW_begin 5 = .ok (.getfield 22, 3) := by decide +kernel
theorem d_LW_begin_8 : decode b_LW_begin 8 = .ok (.getfield 56, 3) := by decide +kernel
theorem d_LW_begin_11 : decode b_LW_begin 11 = .ok (.invokevirtual 61, 3) := by decide +kernel
theorem d_LW_begin_14 : decode b_LW_begin 14 = .ok (.iconst 0, 1) := by decide +kernel
theorem d_LW_begin_15 : decode b_LW_begin 15 = .ok (.istore_n 1, 1) := by decide +kernel
theorem d_LW_begin_16 : decode b_LW_begin 16 = .ok (.iload_n 1, 1) := by decide +kernel
theorem d_LW_begin_17 : decode b_LW_begin 17 = .ok (.bipush 12, 2) := by decide +kernel
theorem d_LW_begin_19 : decode b_LW_begin 19 = .ok (.if_icmp .ge 44, 3) := by decide +kernel
theorem d_LW_begin_22 : decode b_LW_begin 22 = .ok (.aload_n 0, 1) := by decide +kernel
theorem d_LW_begin_23 : decode b_LW_begin 23 = .ok (.getfield 9, 3) := by decide +kernel
theorem d_LW_begin_26 : decode b_LW_begin 26 = .ok (.iload_n 1, 1) := by decide +kernel
theorem d_LW_begin_27 : decode b_LW_begin 27 = .ok (.iconst 0, 1) := by decide +kernel
theorem d_LW_begin_28 : decode b_LW_begin 28 = .ok (.iastore, 1) := by decide +kernel
theorem d_LW_begin_29 : decode b_LW_begin 29 = .ok (.aload_n 0, 1) := by decide +kernel
theorem d_LW_begin_30 : decode b_LW_begin 30 = .ok (.getfield 15, 3) := by decide +kernel
theorem d_LW_begin_33 : decode b_LW_begin 33 = .ok (.iload_n 1, 1) := by decide +kernel
theorem d_LW_begin_34 : decode b_LW_begin 34 = .ok (.aload_n 0, 1) := by decide +kernel
theorem d_LW_begin_35 : decode b_LW_begin 35 = .ok (.getfield 22, 3) := by decide +kernel
theorem d_LW_begin_38 : decode b_LW_begin 38 = .ok (.getfield 66, 3) := by decide +kernel
theorem d_LW_begin_41 : decode b_LW_begin 41 = .ok (.iload_n 1, 1) := by decide +kernel
theorem d_LW_begin_42 : decode b_LW_begin 42 = .ok (.iaload, 1) := by decide +kernel
theorem d_LW_begin_43 : decode b_LW_begin 43 = .ok (.aload_n 0, 1) := by decide +kernel
theorem d_LW_begin_44 : decode b_LW_begin 44 = .ok (.getfield 18, 3) := by decide +kernel
theorem d_LW_begin_47 : decode b_LW_begin 47 = .ok (.getfield 69, 3) := by decide +kernel
theorem d_LW_begin_50 : decode b_LW_begin 50 = .ok (.iload_n 1, 1) := by decide +kernel
theorem d_LW_begin_51 : decode b_LW_begin 51 = .ok (.aaload, 1) := by decide +kernel
theorem d_LW_begin_52 : decode b_LW_begin 52 = .ok (.invokevirtual 75, 3) := by decide +kernel
theorem d_LW_begin_55 : decode b_LW_begin 55 = .ok (.imul, 1) := by decide +kernel
theorem d_LW_begin_56 : decode b_LW_begin 56 = .ok (.iastore, 1) := by decide +kernel
theorem d_LW_begin_57 : decode b_LW_begin 57 = .ok (.iinc 1 1, 3) := by decide +kernel
theorem d_LW_begin_60 : decode b_LW_begin 60 = .ok (.goto (-44), 3) := by decide +kernel
theorem d_LW_begin_63 : decode b_LW_begin 63 = .ok (.aload_n 0, 1) := by decide +kernel
theorem d_LW_begin_64 : decode b_LW_begin 64 = .ok (.iconst 0, 1) := by decide +kernel
theorem d_LW_begin_65 : decode b_LW_begin 65 = .ok (.putfield 33, 3) := by decide +kernel
theorem d_LW_begin_68 : decode b_LW_begin 68 = .ok (.aload_n 0, 1) := by decide +kernel
theorem d_LW_begin_69 : decode b_LW_begin 69 = .ok (.iconst 0, 1) := by decide +kernel
theorem d_LW_begin_70 : decode b_LW_begin 70 = .ok (.putfield 80, 3) := by decide +kernel
theorem d_LW_begin_73 : decode b_LW_begin 73 = .ok (.aload_n 0, 1) := by decide +kernel
theorem d_LW_begin_74 : decode b_LW_begin 74 = .ok (.iconst 0, 1) := by decide +kernel
theorem d_LW_begin_75 : decode b_LW_begin 75 = .ok (.putfield 83, 3) := by decide +kernel
theorem d_LW_begin_78 : decode b_LW_begin 78 = .ok (.aload_n 0, 1) := by decide +kernel
theorem d_LW_begin_79 : decode b_LW_begin 79 = .ok (.iconst 0, 1) := by decide +kernel
theorem d_LW_begin_80 : decode b_LW_begin 80 = .ok (.putfield 86, 3) := by decide +kernel
theorem d_LW_begin_83 : decode b_LW_begin 83 = .ok (.aload_n 0, 1) := by decide +kernel
theorem d_LW_begin_84 : decode b_LW_begin 84 = .ok (.iconst 2, 1) := by decide +kernel
theorem d_LW_begin_85 : decode b_LW_begin 85 = .ok (.putfield 37, 3) := by decide +kernel
theorem d_LW_begin_88 : decode b_LW_begin 88 = .ok (.return_, 1) := by decide +kernel
theorem d_LW_step_0 : decode b_LW_step 0 = .ok (.aload_n 0, 1) := by decide +kernel
theorem d_LW_step_1 : decode b_LW_step 1 = .ok (.invokevirtual 89, 3) := by decide +kernel
theorem d_LW_step_4 : decode b_LW_step 4 = .ok (.ifCond .eq 9, 3) := by decide +kernel
theorem d_LW_step_7 : decode b_LW_step 7 = .ok (.aload_n 0, 1) := by decide +kernel
theorem d_LW_step_8 : decode b_LW_step 8 = .ok (.iconst 0, 1) := by decide +kernel
theorem d_LW_step_9 : decode b_LW_step 9 = .ok (.putfield 37, 3) := by decide +kernel
theorem d_LW_step_12 : decode b_LW_step 12 = .ok (.return_, 1) := by decide +kernel
theorem d_LW_step_13 : decode b_LW_step 13 = .ok (.aload_n 0, 1) := by decide +kernel
theorem d_LW_step_14 : decode b_LW_step 14 = .ok (.invokevirtual 43, 3) := by decide +kernel
theorem d_LW_step_17 : decode b_LW_step 17 = .ok (.istore_n 1, 1) := by decide +kernel
theorem d_LW_step_18 : decode b_LW_step 18 = .ok (.aload_n 0, 1) := by decide +kernel
theorem d_LW_step_19 : decode b_LW_step 19 = .ok (.iload_n 1, 1) := by decide +kernel
theorem d_LW_step_20 : decode b_LW_step 20 = .ok (.invokevirtual 93, 3) := by decide +kernel
theorem d_LW_step_23 : decode b_LW_step 23 = .ok (.istore_n 2, 1) := by decide +kernel
theorem d_LW_step_24 : decode b_LW_step 24 = .ok (.iload_n 2, 1) := by decide +kernel
theorem d_LW_step_25 : decode b_LW_step 25 = .ok (.sipush 512, 3) := by decide +kernel
theorem d_LW_step_28 : decode b_LW_step 28 = .ok (.if_icmp .ne 9, 3) := by decide +kernel
theorem d_LW_step_31 : decode b_LW_step 31 = .ok (.aload_n 0, 1) := by decide +kernel
theorem d_LW_step_32 : decode b_LW_step 32 = .ok (.iconst 1, 1) := by decide +kernel
theorem d_LW_step_33 : decode b_LW_step 33 = .ok (.putfield 37, 3) := by decide +kernel
theorem d_LW_step_36 : decode b_LW_step 36 = .ok (.return_, 1) := by decide +kernel
theorem d_LW_step_37 : decode b_LW_step 37 = .ok (.aload_n 0, 1) := by decide +kernel
theorem d_LW_step_38 : decode b_LW_step 38 = .ok (.invokevirtual 97, 3) := by decide +kernel
theorem d_LW_step_41 : decode b_LW_step 41 = .ok (.istore_n 3, 1) := by decide +kernel
theorem d_LW_step_42 : decode b_LW_step 42 = .ok (.iload_n 3, 1) := by decide +kernel
theorem d_LW_step_43 : decode b_LW_step 43 = .ok (.iload_n 2, 1) := by decide +kernel
theorem d_LW_step_44 : decode b_LW_step 44 = .ok (.if_icmp .le 11, 3) := by decide +kernel
theorem d_LW_step_47 : decode b_LW_step 47 = .ok (.aload_n 0, 1) := by decide +kernel
theorem d_LW_step_48 : decode b_LW_step 48 = .ok (.iload_n 3, 1) := by decide +kernel
theorem d_LW_step_49 : decode b_LW_step 49 = .ok (.invokevirtual 100, 3) := by decide +kernel
theorem d_LW_step_52 : decode b_LW_step 52 = .ok (.goto 55, 3) := by decide +kernel
theorem d_LW_step_55 : decode b_LW_step 55 = .ok (.aload_n 0, 1) := by decide +kernel
theorem d_LW_step_56 : decode b_LW_step 56 = .ok (.iload_n 2, 1) := by decide +kernel
theorem d_LW_step_57 : decode b_LW_step 57 = .ok (.invokevirtual 103, 3) := by decide +kernel
theorem d_LW_step_60 : decode b_LW_step 60 = .ok (.iload_n 1, 1) := by decide +kernel
theorem d_LW_step_61 : decode b_LW_step 61 = .ok (.if_icmp .gt 25, 3) := by decide +kernel
theorem d_LW_step_64 : decode b_LW_step 64 = .ok (.aload_n 0, 1) := by decide +kernel
theorem d_LW_step_65 : decode b_LW_step 65 = .ok (.dup, 1) := by decide +kernel
theorem d_LW_step_66 : decode b_LW_step 66 = .ok (.getfield 83, 3) := by decide +kernel
theorem d_LW_step_69 : decode b_LW_step 69 = .ok (.iconst 1, 1) := by decide +kernel
theorem d_LW_step_70 : decode b_LW_step 70 = .ok (.iadd, 1) := by decide +kernel
theorem d_LW_step_71 : decode b_LW_step 71 = .ok (.putfield 83, 3) := by decide +kernel
theorem d_LW_step_74 : decode b_LW_step 74 = .ok (.aload_n 0, 1) := by decide +kernel
theorem d_LW_step_75 : decode b_LW_step 75 = .ok (.aload_n 0, 1) := by decide +kernel
theorem d_LW_step_76 : decode b_LW_step 76 = .ok (.iload_n 2, 1) := by decide +kernel
theorem d_LW_step_77 : decode b_LW_step 77 = .ok (.invokevirtual 106, 3) := by decide +kernel
theorem d_LW_step_80 : decode b_LW_step 80 = .ok (.invokevirtual 100, 3) := by decide +kernel
theorem d_LW_step_83 : decode b_LW_step 83 = .ok (.goto 24, 3) := by decide +kernel
theorem d_LW_step_86 : decode b_LW_step 86 = .ok (.aload_n 0, 1) := by decide +kernel
theorem d_LW_step_87 : decode b_LW_step 87 = .ok (.invokevirtual 50, 3) := by decide +kernel
theorem d_LW_step_90 : decode b_LW_step 90 = .ok (.iload_n 2, 1) := by decide +kernel
theorem d_LW_step_91 : decode b_LW_step 91 = .ok (.if_icmp .ge 11, 3) := by decide +kernel
theorem d_LW_step_94 : decode b_LW_step 94 = .ok (.aload_n 0, 1) := by decide +kernel
theorem d_LW_step_95 : decode b_LW_step 95 = .ok (.iload_n 2, 1) := by decide +kernel
theorem d_LW_step_96 : decode b_LW_step 96 = .ok (.invokevirtual 100, 3) := by decide +kernel
theorem d_LW_step_99 : decode b_LW_step 99 = .ok (.goto 8, 3) := by decide +kernel
theorem d_LW_step_102 : decode b_LW_step 102 = .ok (.aload_n 0, 1) := by decide +kernel
theorem d_LW_step_103 : decode b_LW_step 103 = .ok (.iload_n 2, 1) := by decide +kernel
theorem d_LW_step_104 : decode b_LW_step 104 = .ok (.invokevirtual 109, 3) := by decide +kernel
theorem d_LW_step_107 : decode b_LW_step 107 = .ok (.return_, 1) := by decide +kernel
theorem d_LW_floor_0 : decode b_LW_floor 0 = .ok (.aload_n 0, 1) := by decide +kernel
theorem d_LW_floor_1 : decode b_LW_floor 1 = .ok (.getfield 26, 3) := by decide +kernel
theorem d_LW_floor_4 : decode b_LW_floor 4 = .ok (.invokevirtual 112, 3) := by decide +kernel
theorem d_LW_floor_7 : decode b_LW_floor 7 = .ok (.ifCond .eq 13, 3) := by decide +kernel
theorem d_LW_floor_10 : decode b_LW_floor 10 = .ok (.aload_n 0, 1) := by decide +kernel
theorem d_LW_floor_11 : decode b_LW_floor 11 = .ok (.getfield 26, 3) := by decide +kernel
theorem d_LW_floor_14 : decode b_LW_floor 14 = .ok (.invokevirtual 115, 3) := by decide +kernel
theorem d_LW_floor_17 : decode b_LW_floor 17 = .ok (.goto 4, 3) := by decide +kernel
theorem d_LW_floor_20 : decode b_LW_floor 20 = .ok (.iconst 0, 1) := by decide +kernel
theorem d_LW_floor_21 : decode b_LW_floor 21 = .ok (.ireturn, 1) := by decide +kernel
theorem d_LW_standing_0 : decode b_LW_standing 0 = .ok (.aload_n 0, 1) := by decide +kernel
theorem d_LW_standing_1 : decode b_LW_standing 1 = .ok (.getfield 22, 3) := by decide +kernel
theorem d_LW_standing_4 : decode b_LW_standing 4 = .ok (.iload_n 1, 1) := by decide +kernel
theorem d_LW_standing_5 : decode b_LW_standing 5 = .ok (.invokevirtual 118, 3) := by decide +kernel
theorem d_LW_standing_8 : decode b_LW_standing 8 = .ok (.ifCond .eq 24, 3) := by decide +kernel
theorem d_LW_standing_11 : decode b_LW_standing 11 = .ok (.aload_n 0, 1) := by decide +kernel
theorem d_LW_standing_12 : decode b_LW_standing 12 = .ok (.getfield 18, 3) := by decide +kernel
theorem d_LW_standing_15 : decode b_LW_standing 15 = .ok (.getfield 69, 3) := by decide +kernel
theorem d_LW_standing_18 : decode b_LW_standing 18 = .ok (.iload_n 1, 1) := by decide +kernel
theorem d_LW_standing_19 : decode b_LW_standing 19 = .ok (.aaload, 1) := by decide +kernel
theorem d_LW_standing_20 : decode b_LW_standing 20 = .ok (.aload_n 0, 1) := by decide +kernel
theorem d_LW_standing_21 : decode b_LW_standing 21 = .ok (.getfield 9, 3) := by decide +kernel
theorem d_LW_standing_24 : decode b_LW_standing 24 = .ok (.iload_n 1, 1) := by decide +kernel
theorem d_LW_standing_25 : decode b_LW_standing 25 = .ok (.iaload, 1) := by decide +kernel
theorem d_LW_standing_26 : decode b_LW_standing 26 = .ok (.invokevirtual 122, 3) := by decide +kernel
theorem d_LW_standing_29 : decode b_LW_standing 29 = .ok (.goto 6, 3) := by decide +kernel
theorem d_LW_standing_32 : decode b_LW_standing 32 = .ok (.sipush 512, 3) := by decide +kernel
theorem d_LW_standing_35 : decode b_LW_standing 35 = .ok (.ireturn, 1) := by decide +kernel
theorem d_LW_leastObject_0 : decode b_LW_leastObject 0 = .ok (.sipush 512, 3) := by decide +kernel
theorem d_LW_leastObject_3 : decode b_LW_leastObject 3 = .ok (.istore_n 1, 1) := by decide +kernel
theorem d_LW_leastObject_4 : decode b_LW_leastObject 4 = .ok (.iconst 0, 1) := by decide +kernel
theorem d_LW_leastObject_5 : decode b_LW_leastObject 5 = .ok (.istore_n 2, 1) := by decide +kernel
theorem d_LW_leastObject_6 : decode b_LW_leastObject 6 = .ok (.iload_n 2, 1) := by decide +kernel
theorem d_LW_leastObject_7 : decode b_LW_leastObject 7 = .ok (.bipush 12, 2) := by decide +kernel
theorem d_LW_leastObject_9 : decode b_LW_leastObject 9 = .ok (.if_icmp .ge 19, 3) := by decide +kernel
theorem d_LW_leastObject_12 : decode b_LW_leastObject 12 = .ok (.iload_n 1, 1) := by decide +kernel
theorem d_LW_leastObject_13 : decode b_LW_leastObject 13 = .ok (.aload_n 0, 1) := by decide +kernel
theorem d_LW_leastObject_14 : decode b_LW_leastObject 14 = .ok (.iload_n 2, 1) := by decide +kernel
theorem d_LW_leastObject_15 : decode b_LW_leastObject 15 = .ok (.invokevirtual 125, 3) := by decide +kernel
theorem d_LW_leastObject_18 : decode b_LW_leastObject 18 = .ok (.invokestatic 128, 3) := by decide +kernel
theorem d_LW_leastObject_21 : decode b_LW_leastObject 21 = .ok (.istore_n 1, 1) := by decide +kernel
theorem d_LW_leastObject_22 : decode b_LW_leastObject 22 = .ok (.iinc 2 1, 3) := by decide +kernel
theorem d_LW_leastObject_25 : decode b_LW_leastObject 25 = .ok (.goto (-19), 3) := by decide +kernel
theorem d_LW_leastObject_28 : decode b_LW_leastObject 28 = .ok (.iload_n 1, 1) := by decide +kernel
theorem d_LW_leastObject_29 : decode b_LW_leastObject 29 = .ok (.ireturn, 1) := by decide +kernel
theorem d_LW_isAtEnd_0 : decode b_LW_isAtEnd 0 = .ok (.aload_n 0, 1) := by decide +kernel
theorem d_LW_isAtEnd_1 : decode b_LW_isAtEnd 1 = .ok (.invokevirtual 50, 3) := by decide +kernel
theorem d_LW_isAtEnd_4 : decode b_LW_isAtEnd 4 = .ok (.sipush 512, 3) := by decide +kernel
theorem d_LW_isAtEnd_7 : decode b_LW_isAtEnd 7 = .ok (.if_icmp .eq 13, 3) := by decide +kernel
theorem d_LW_isAtEnd_10 : decode b_LW_isAtEnd 10 = .ok (.aload_n 0, 1) := by decide +kernel
theorem d_LW_isAtEnd_11 : decode b_LW_isAtEnd 11 = .ok (.invokevirtual 97, 3) := by decide +kernel
theorem d_LW_isAtEnd_14 : decode b_LW_isAtEnd 14 = .ok (.sipush 512, 3) := by decide +kernel
theorem d_LW_isAtEnd_17 : decode b_LW_isAtEnd 17 = .ok (.if_icmp .ne 7, 3) := by decide +kernel
theorem d_LW_isAtEnd_20 : decode b_LW_isAtEnd 20 = .ok (.iconst 1, 1) := by decide +kernel
theorem d_LW_isAtEnd_21 : decode b_LW_isAtEnd 21 = .ok (.goto 4, 3) := by decide +kernel
theorem d_LW_isAtEnd_24 : decode b_LW_isAtEnd 24 = .ok (.iconst 0, 1) := by decide +kernel
theorem d_LW_isAtEnd_25 : decode b_LW_isAtEnd 25 = .ok (.ireturn, 1) := by decide +kernel
theorem d_LW_greatestNeeded_0 : decode b_LW_greatestNeeded 0 = .ok (.iconst (-1), 1) := by decide +kernel
theorem d_LW_greatestNeeded_1 : decode b_LW_greatestNeeded 1 = .ok (.istore_n 1, 1) := by decide +kernel
theorem d_LW_greatestNeeded_2 : decode b_LW_greatestNeeded 2 = .ok (.iconst 0, 1) := by decide +kernel
theorem d_LW_greatestNeeded_3 : decode b_LW_greatestNeeded 3 = .ok (.istore_n 2, 1) := by decide +kernel
theorem d_LW_greatestNeeded_4 : decode b_LW_greatestNeeded 4 = .ok (.iload_n 2, 1) := by decide +kernel
theorem d_LW_greatestNeeded_5 : decode b_LW_greatestNeeded 5 = .ok (.bipush 12, 2) := by decide +kernel
theorem d_LW_greatestNeeded_7 : decode b_LW_greatestNeeded 7 = .ok (.if_icmp .ge 32, 3) := by decide +kernel
theorem d_LW_greatestNeeded_10 : decode b_LW_greatestNeeded 10 = .ok (.aload_n 0, 1) := by decide +kernel
theorem d_LW_greatestNeeded_11 : decode b_LW_greatestNeeded 11 = .ok (.getfield 22, 3) := by decide +kernel
theorem d_LW_greatestNeeded_14 : decode b_LW_greatestNeeded 14 = .ok (.getfield 134, 3) := by decide +kernel
theorem d_LW_greatestNeeded_17 : decode b_LW_greatestNeeded 17 = .ok (.iload_n 2, 1) := by decide +kernel
theorem d_LW_greatestNeeded_18 : decode b_LW_greatestNeeded 18 = .ok (.iaload, 1) := by decide +kernel
theorem d_LW_greatestNeeded_19 : decode b_LW_greatestNeeded 19 = .ok (.iconst 2, 1) := by decide +kernel
theorem d_LW_greatestNeeded_20 : decode b_LW_greatestNeeded 20 = .ok (.if_icmp .ne 13, 3) := by decide +kernel
theorem d_LW_greatestNeeded_23 : decode b_LW_greatestNeeded 23 = .ok (.iload_n 1, 1) := by decide +kernel
theorem d_LW_greatestNeeded_24 : decode b_LW_greatestNeeded 24 = .ok (.aload_n 0, 1) := by decide +kernel
theorem d_LW_greatestNeeded_25 : decode b_LW_greatestNeeded 25 = .ok (.iload_n 2, 1) := by decide +kernel
theorem d_LW_greatestNeeded_26 : decode b_LW_greatestNeeded 26 = .ok (.invokevirtual 125, 3) := by decide +kernel
theorem d_LW_greatestNeeded_29 : decode b_LW_greatestNeeded 29 = .ok (.invokestatic 137, 3) := by decide +kernel
theorem d_LW_greatestNeeded_32 : decode b_LW_greatestNeeded 32 = .ok (.istore_n 1, 1) := by decide +kernel
theorem d_LW_greatestNeeded_33 : decode b_LW_greatestNeeded 33 = .ok (.iinc 2 1, 3) := by decide +kernel
theorem d_LW_greatestNeeded_36 : decode b_LW_greatestNeeded 36 = .ok (.goto (-32), 3) := by decide +kernel
theorem d_LW_greatestNeeded_39 : decode b_LW_greatestNeeded 39 = .ok (.iload_n 1, 1) := by decide +kernel
theorem d_LW_greatestNeeded_40 : decode b_LW_greatestNeeded 40 = .ok (.ireturn, 1) := by decide +kernel
theorem d_LW_firstAbove_0 : decode b_LW_firstAbove 0 = .ok (.sipush 512, 3) := by decide +kernel
theorem d_LW_firstAbove_3 : decode b_LW_firstAbove 3 = .ok (.istore_n 2, 1) := by decide +kernel
theorem d_LW_firstAbove_4 : decode b_LW_firstAbove 4 = .ok (.iconst 0, 1) := by decide +kernel
theorem d_LW_firstAbove_5 : decode b_LW_firstAbove 5 = .ok (.istore_n 3, 1) := by decide +kernel
theorem d_LW_firstAbove_6 : decode b_LW_firstAbove 6 = .ok (.iload_n 3, 1) := by decide +kernel
theorem d_LW_firstAbove_7 : decode b_LW_firstAbove 7 = .ok (.bipush 12, 2) := by decide +kernel
theorem d_LW_firstAbove_9 : decode b_LW_firstAbove 9 = .ok (.if_icmp .ge 35, 3) := by decide +kernel
theorem d_LW_firstAbove_12 : decode b_LW_firstAbove 12 = .ok (.aload_n 0, 1) := by decide +kernel
theorem d_LW_firstAbove_13 : decode b_LW_firstAbove 13 = .ok (.iload_n 3, 1) := by decide +kernel
theorem d_LW_firstAbove_14 : decode b_LW_firstAbove 14 = .ok (.invokevirtual 125, 3) := by decide +kernel
theorem d_LW_firstAbove_17 : decode b_LW_firstAbove 17 = .ok (.istore 4, 2) := by decide +kernel
theorem d_LW_firstAbove_19 : decode b_LW_firstAbove 19 = .ok (.iload 4, 2) := by decide +kernel
theorem d_LW_firstAbove_21 : decode b_LW_firstAbove 21 = .ok (.iload_n 2, 1) := by decide +kernel
theorem d_LW_firstAbove_22 : decode b_LW_firstAbove 22 = .ok (.if_icmp .ge 16, 3) := by decide +kernel
theorem d_LW_firstAbove_25 : decode b_LW_firstAbove 25 = .ok (.aload_n 0, 1) := by decide +kernel
theorem d_LW_firstAbove_26 : decode b_LW_firstAbove 26 = .ok (.iload 4, 2) := by decide +kernel
theorem d_LW_firstAbove_28 : decode b_LW_firstAbove 28 = .ok (.invokevirtual 140, 3) := by decide +kernel
theorem d_LW_firstAbove_31 : decode b_LW_firstAbove 31 = .ok (.iload_n 1, 1) := by decide +kernel
theorem d_LW_firstAbove_32 : decode b_LW_firstAbove 32 = .ok (.if_icmp .le 6, 3) := by decide +kernel
theorem d_LW_firstAbove_35 : decode b_LW_firstAbove 35 = .ok (.iload 4, 2) := by decide +kernel
theorem d_LW_firstAbove_37 : decode b_LW_firstAbove 37 = .ok (.istore_n 2, 1) := by decide +kernel
theorem d_LW_firstAbove_38 : decode b_LW_firstAbove 38 = .ok (.iinc 3 1, 3) := by decide +kernel
theorem d_LW_firstAbove_41 : decode b_LW_firstAbove 41 = .ok (.goto (-35), 3) := by decide +kernel
theorem d_LW_firstAbove_44 : decode b_LW_firstAbove 44 = .ok (.iload_n 2, 1) := by decide +kernel
theorem d_LW_firstAbove_45 : decode b_LW_firstAbove 45 = .ok (.ireturn, 1) := by decide +kernel
theorem d_LW_boundUpTo_0 : decode b_LW_boundUpTo 0 = .ok (.iconst 0, 1) := by decide +kernel
theorem d_LW_boundUpTo_1 : decode b_LW_boundUpTo 1 = .ok (.istore_n 2, 1) := by decide +kernel
theorem d_LW_boundUpTo_2 : decode b_LW_boundUpTo 2 = .ok (.iconst 0, 1) := by decide +kernel
theorem d_LW_boundUpTo_3 : decode b_LW_boundUpTo 3 = .ok (.istore_n 3, 1) := by decide +kernel
theorem d_LW_boundUpTo_4 : decode b_LW_boundUpTo 4 = .ok (.iload_n 3, 1) := by decide +kernel
theorem d_LW_boundUpTo_5 : decode b_LW_boundUpTo 5 = .ok (.bipush 12, 2) := by decide +kernel
theorem d_LW_boundUpTo_7 : decode b_LW_boundUpTo 7 = .ok (.if_icmp .ge 27, 3) := by decide +kernel
theorem d_LW_boundUpTo_10 : decode b_LW_boundUpTo 10 = .ok (.aload_n 0, 1) := by decide +kernel
theorem d_LW_boundUpTo_11 : decode b_LW_boundUpTo 11 = .ok (.iload_n 3, 1) := by decide +kernel
theorem d_LW_boundUpTo_12 : decode b_LW_boundUpTo 12 = .ok (.invokevirtual 125, 3) := by decide +kernel
theorem d_LW_boundUpTo_15 : decode b_LW_boundUpTo 15 = .ok (.iload_n 1, 1) := by decide +kernel
theorem d_LW_boundUpTo_16 : decode b_LW_boundUpTo 16 = .ok (.if_icmp .gt 12, 3) := by decide +kernel
theorem d_LW_boundUpTo_19 : decode b_LW_boundUpTo 19 = .ok (.iload_n 2, 1) := by decide +kernel
theorem d_LW_boundUpTo_20 : decode b_LW_boundUpTo 20 = .ok (.aload_n 0, 1) := by decide +kernel
theorem d_LW_boundUpTo_21 : decode b_LW_boundUpTo 21 = .ok (.getfield 15, 3) := by decide +kernel
theorem d_LW_boundUpTo_24 : decode b_LW_boundUpTo 24 = .ok (.iload_n 3, 1) := by decide +kernel
theorem d_LW_boundUpTo_25 : decode b_LW_boundUpTo 25 = .ok (.iaload, 1) := by decide +kernel
theorem d_LW_boundUpTo_26 : decode b_LW_boundUpTo 26 = .ok (.iadd, 1) := by decide +kernel
theorem d_LW_boundUpTo_27 : decode b_LW_boundUpTo 27 = .ok (.istore_n 2, 1) := by decide +kernel
theorem d_LW_boundUpTo_28 : decode b_LW_boundUpTo 28 = .ok (.iinc 3 1, 3) := by decide +kernel
theorem d_LW_boundUpTo_31 : decode b_LW_boundUpTo 31 = .ok (.goto (-27), 3) := by decide +kernel
theorem d_LW_boundUpTo_34 : decode b_LW_boundUpTo 34 = .ok (.iload_n 2, 1) := by decide +kernel
theorem d_LW_boundUpTo_35 : decode b_LW_boundUpTo 35 = .ok (.ireturn, 1) := by decide +kernel
