theorem d_LW_boundOfBlocks_0 : decode b_LW_boundOfBlocks 0 = .ok (.iconst 0, 1) := by decide +kernel
theorem d_LW_boundOfBlocks_1 : decode b_LW_boundOfBlocks 1 = .ok (.istore_n 2, 1) := by decide +kernel
theorem d_LW_boundOfBlocks_2 : decode b_LW_boundOfBlocks 2 = .ok (.iconst 0, 1) := by decide +kernel
theorem d_LW_boundOfBlocks_3 : decode b_LW_boundOfBlocks 3 = .ok (.istore_n 3, 1) := by decide +kernel
theorem d_LW_boundOfBlocks_4 : decode b_LW_boundOfBlocks 4 = .ok (.iload_n 3, 1) := by decide +kernel
theorem d_LW_boundOfBlocks_5 : decode b_LW_boundOfBlocks 5 = .ok (.bipush 12, 2) := by decide +kernel
theorem d_LW_boundOfBlocks_7 : decode b_LW_boundOfBlocks 7 = .ok (.if_icmp .ge 49, 3) := by decide +kernel
theorem d_LW_boundOfBlocks_10 : decode b_LW_boundOfBlocks 10 = .ok (.aload_n 0, 1) := by decide +kernel
theorem d_LW_boundOfBlocks_11 : decode b_LW_boundOfBlocks 11 = .ok (.iload_n 3, 1) := by decide +kernel
theorem d_LW_boundOfBlocks_12 : decode b_LW_boundOfBlocks 12 = .ok (.iload_n 1, 1) := by decide +kernel
theorem d_LW_boundOfBlocks_13 : decode b_LW_boundOfBlocks 13 = .ok (.invokevirtual 143, 3) := by decide +kernel
theorem d_LW_boundOfBlocks_16 : decode b_LW_boundOfBlocks 16 = .ok (.istore 4, 2) := by decide +kernel
theorem d_LW_boundOfBlocks_18 : decode b_LW_boundOfBlocks 18 = .ok (.iload 4, 2) := by decide +kernel
theorem d_LW_boundOfBlocks_20 : decode b_LW_boundOfBlocks 20 = .ok (.ifCond .lt 30, 3) := by decide +kernel
theorem d_LW_boundOfBlocks_23 : decode b_LW_boundOfBlocks 23 = .ok (.iload_n 2, 1) := by decide +kernel
theorem d_LW_boundOfBlocks_24 : decode b_LW_boundOfBlocks 24 = .ok (.aload_n 0, 1) := by decide +kernel
theorem d_LW_boundOfBlocks_25 : decode b_LW_boundOfBlocks 25 = .ok (.getfield 22, 3) := by decide +kernel
theorem d_LW_boundOfBlocks_28 : decode b_LW_boundOfBlocks 28 = .ok (.getfield 66, 3) := by decide +kernel
theorem d_LW_boundOfBlocks_31 : decode b_LW_boundOfBlocks 31 = .ok (.iload_n 3, 1) := by decide +kernel
theorem d_LW_boundOfBlocks_32 : decode b_LW_boundOfBlocks 32 = .ok (.iaload, 1) := by decide +kernel
theorem d_LW_boundOfBlocks_33 : decode b_LW_boundOfBlocks 33 = .ok (.aload_n 0, 1) := by decide +kernel
theorem d_LW_boundOfBlocks_34 : decode b_LW_boundOfBlocks 34 = .ok (.getfield 18, 3) := by decide +kernel
theorem d_LW_boundOfBlocks_37 : decode b_LW_boundOfBlocks 37 = .ok (.getfield 69, 3) := by decide +kernel
theorem d_LW_boundOfBlocks_40 : decode b_LW_boundOfBlocks 40 = .ok (.iload_n 3, 1) := by decide +kernel
theorem d_LW_boundOfBlocks_41 : decode b_LW_boundOfBlocks 41 = .ok (.aaload, 1) := by decide +kernel
theorem d_LW_boundOfBlocks_42 : decode b_LW_boundOfBlocks 42 = .ok (.iload 4, 2) := by decide +kernel
theorem d_LW_boundOfBlocks_44 : decode b_LW_boundOfBlocks 44 = .ok (.invokevirtual 146, 3) := by decide +kernel
theorem d_LW_boundOfBlocks_47 : decode b_LW_boundOfBlocks 47 = .ok (.imul, 1) := by decide +kernel
theorem d_LW_boundOfBlocks_48 : decode b_LW_boundOfBlocks 48 = .ok (.iadd, 1) := by decide +kernel
theorem d_LW_boundOfBlocks_49 : decode b_LW_boundOfBlocks 49 = .ok (.istore_n 2, 1) := by decide +kernel
theorem d_LW_boundOfBlocks_50 : decode b_LW_boundOfBlocks 50 = .ok (.iinc 3 1, 3) := by decide +kernel
theorem d_LW_boundOfBlocks_53 : decode b_LW_boundOfBlocks 53 = .ok (.goto (-49), 3) := by decide +kernel
theorem d_LW_boundOfBlocks_56 : decode b_LW_boundOfBlocks 56 = .ok (.iload_n 2, 1) := by decide +kernel
theorem d_LW_boundOfBlocks_57 : decode b_LW_boundOfBlocks 57 = .ok (.ireturn, 1) := by decide +kernel
theorem d_LW_endOfBlocks_0 : decode b_LW_endOfBlocks 0 = .ok (.sipush 512, 3) := by decide +kernel
theorem d_LW_endOfBlocks_3 : decode b_LW_endOfBlocks 3 = .ok (.istore_n 2, 1) := by decide +kernel
theorem d_LW_endOfBlocks_4 : decode b_LW_endOfBlocks 4 = .ok (.iconst 0, 1) := by decide +kernel
theorem d_LW_endOfBlocks_5 : decode b_LW_endOfBlocks 5 = .ok (.istore_n 3, 1) := by decide +kernel
theorem d_LW_endOfBlocks_6 : decode b_LW_endOfBlocks 6 = .ok (.iload_n 3, 1) := by decide +kernel
theorem d_LW_endOfBlocks_7 : decode b_LW_endOfBlocks 7 = .ok (.bipush 12, 2) := by decide +kernel
theorem d_LW_endOfBlocks_9 : decode b_LW_endOfBlocks 9 = .ok (.if_icmp .ge 66, 3) := by decide +kernel
theorem d_LW_endOfBlocks_12 : decode b_LW_endOfBlocks 12 = .ok (.aload_n 0, 1) := by decide +kernel
theorem d_LW_endOfBlocks_13 : decode b_LW_endOfBlocks 13 = .ok (.iload_n 3, 1) := by decide +kernel
theorem d_LW_endOfBlocks_14 : decode b_LW_endOfBlocks 14 = .ok (.invokevirtual 125, 3) := by decide +kernel
theorem d_LW_endOfBlocks_17 : decode b_LW_endOfBlocks 17 = .ok (.istore 4, 2) := by decide +kernel
theorem d_LW_endOfBlocks_19 : decode b_LW_endOfBlocks 19 = .ok (.aload_n 0, 1) := by decide +kernel
theorem d_LW_endOfBlocks_20 : decode b_LW_endOfBlocks 20 = .ok (.iload_n 3, 1) := by decide +kernel
theorem d_LW_endOfBlocks_21 : decode b_LW_endOfBlocks 21 = .ok (.iload_n 1, 1) := by decide +kernel
theorem d_LW_endOfBlocks_22 : decode b_LW_endOfBlocks 22 = .ok (.invokevirtual 143, 3) := by decide +kernel
theorem d_LW_endOfBlocks_25 : decode b_LW_endOfBlocks 25 = .ok (.istore 5, 2) := by decide +kernel
theorem d_LW_endOfBlocks_27 : decode b_LW_endOfBlocks 27 = .ok (.iload 5, 2) := by decide +kernel
theorem d_LW_endOfBlocks_29 : decode b_LW_endOfBlocks 29 = .ok (.ifCond .lt 27, 3) := by decide +kernel
theorem d_LW_endOfBlocks_32 : decode b_LW_endOfBlocks 32 = .ok (.iload_n 2, 1) := by decide +kernel
theorem d_LW_endOfBlocks_33 : decode b_LW_endOfBlocks 33 = .ok (.aload_n 0, 1) := by decide +kernel
theorem d_LW_endOfBlocks_34 : decode b_LW_endOfBlocks 34 = .ok (.getfield 18, 3) := by decide +kernel
theorem d_LW_endOfBlocks_37 : decode b_LW_endOfBlocks 37 = .ok (.getfield 69, 3) := by decide +kernel
theorem d_LW_endOfBlocks_40 : decode b_LW_endOfBlocks 40 = .ok (.iload_n 3, 1) := by decide +kernel
theorem d_LW_endOfBlocks_41 : decode b_LW_endOfBlocks 41 = .ok (.aaload, 1) := by decide +kernel
theorem d_LW_endOfBlocks_42 : decode b_LW_endOfBlocks 42 = .ok (.iload 5, 2) := by decide +kernel
theorem d_LW_endOfBlocks_44 : decode b_LW_endOfBlocks 44 = .ok (.invokevirtual 149, 3) := by decide +kernel
theorem d_LW_endOfBlocks_47 : decode b_LW_endOfBlocks 47 = .ok (.iconst 1, 1) := by decide +kernel
theorem d_LW_endOfBlocks_48 : decode b_LW_endOfBlocks 48 = .ok (.iadd, 1) := by decide +kernel
theorem d_LW_endOfBlocks_49 : decode b_LW_endOfBlocks 49 = .ok (.invokestatic 128, 3) := by decide +kernel
theorem d_LW_endOfBlocks_52 : decode b_LW_endOfBlocks 52 = .ok (.istore_n 2, 1) := by decide +kernel
theorem d_LW_endOfBlocks_53 : decode b_LW_endOfBlocks 53 = .ok (.goto 16, 3) := by decide +kernel
theorem d_LW_endOfBlocks_56 : decode b_LW_endOfBlocks 56 = .ok (.iload 4, 2) := by decide +kernel
theorem d_LW_endOfBlocks_58 : decode b_LW_endOfBlocks 58 = .ok (.iload_n 1, 1) := by decide +kernel
theorem d_LW_endOfBlocks_59 : decode b_LW_endOfBlocks 59 = .ok (.if_icmp .le 10, 3) := by decide +kernel
theorem d_LW_endOfBlocks_62 : decode b_LW_endOfBlocks 62 = .ok (.iload_n 2, 1) := by decide +kernel
theorem d_LW_endOfBlocks_63 : decode b_LW_endOfBlocks 63 = .ok (.iload 4, 2) := by decide +kernel
theorem d_LW_endOfBlocks_65 : decode b_LW_endOfBlocks 65 = .ok (.invokestatic 128, 3) := by decide +kernel
theorem d_LW_endOfBlocks_68 : decode b_LW_endOfBlocks 68 = .ok (.istore_n 2, 1) := by decide +kernel
theorem d_LW_endOfBlocks_69 : decode b_LW_endOfBlocks 69 = .ok (.iinc 3 1, 3) := by decide +kernel
theorem d_LW_endOfBlocks_72 : decode b_LW_endOfBlocks 72 = .ok (.goto (-66), 3) := by decide +kernel
theorem d_LW_endOfBlocks_75 : decode b_LW_endOfBlocks 75 = .ok (.iload_n 2, 1) := by decide +kernel
theorem d_LW_endOfBlocks_76 : decode b_LW_endOfBlocks 76 = .ok (.ireturn, 1) := by decide +kernel
theorem d_LW_blockFor_0 : decode b_LW_blockFor 0 = .ok (.aload_n 0, 1) := by decide +kernel
theorem d_LW_blockFor_1 : decode b_LW_blockFor 1 = .ok (.iload_n 1, 1) := by decide +kernel
theorem d_LW_blockFor_2 : decode b_LW_blockFor 2 = .ok (.invokevirtual 125, 3) := by decide +kernel
theorem d_LW_blockFor_5 : decode b_LW_blockFor 5 = .ok (.iload_n 2, 1) := by decide +kernel
theorem d_LW_blockFor_6 : decode b_LW_blockFor 6 = .ok (.if_icmp .le 5, 3) := by decide +kernel
theorem d_LW_blockFor_9 : decode b_LW_blockFor 9 = .ok (.iconst (-1), 1) := by decide +kernel
theorem d_LW_blockFor_10 : decode b_LW_blockFor 10 = .ok (.ireturn, 1) := by decide +kernel
theorem d_LW_blockFor_11 : decode b_LW_blockFor 11 = .ok (.aload_n 0, 1) := by decide +kernel
theorem d_LW_blockFor_12 : decode b_LW_blockFor 12 = .ok (.getfield 18, 3) := by decide +kernel
theorem d_LW_blockFor_15 : decode b_LW_blockFor 15 = .ok (.getfield 69, 3) := by decide +kernel
theorem d_LW_blockFor_18 : decode b_LW_blockFor 18 = .ok (.iload_n 1, 1) := by decide +kernel
theorem d_LW_blockFor_19 : decode b_LW_blockFor 19 = .ok (.aaload, 1) := by decide +kernel
theorem d_LW_blockFor_20 : decode b_LW_blockFor 20 = .ok (.astore_n 3, 1) := by decide +kernel
theorem d_LW_blockFor_21 : decode b_LW_blockFor 21 = .ok (.aload_n 3, 1) := by decide +kernel
theorem d_LW_blockFor_22 : decode b_LW_blockFor 22 = .ok (.aload_n 0, 1) := by decide +kernel
theorem d_LW_blockFor_23 : decode b_LW_blockFor 23 = .ok (.getfield 9, 3) := by decide +kernel
theorem d_LW_blockFor_26 : decode b_LW_blockFor 26 = .ok (.iload_n 1, 1) := by decide +kernel
theorem d_LW_blockFor_27 : decode b_LW_blockFor 27 = .ok (.iaload, 1) := by decide +kernel
theorem d_LW_blockFor_28 : decode b_LW_blockFor 28 = .ok (.iload_n 2, 1) := by decide +kernel
theorem d_LW_blockFor_29 : decode b_LW_blockFor 29 = .ok (.invokevirtual 152, 3) := by decide +kernel
theorem d_LW_blockFor_32 : decode b_LW_blockFor 32 = .ok (.istore 4, 2) := by decide +kernel
theorem d_LW_blockFor_34 : decode b_LW_blockFor 34 = .ok (.iload 4, 2) := by decide +kernel
theorem d_LW_blockFor_36 : decode b_LW_blockFor 36 = .ok (.aload_n 3, 1) := by decide +kernel
theorem d_LW_blockFor_37 : decode b_LW_blockFor 37 = .ok (.getfield 155, 3) := by decide +kernel
theorem d_LW_blockFor_40 : decode b_LW_blockFor 40 = .ok (.if_icmp .ge 11, 3) := by decide +kernel
theorem d_LW_blockFor_43 : decode b_LW_blockFor 43 = .ok (.iload 4, 2) := by decide +kernel
theorem d_LW_blockFor_45 : decode b_LW_blockFor 45 = .ok (.bipush 8, 2) := by decide +kernel
theorem d_LW_blockFor_47 : decode b_LW_blockFor 47 = .ok (.idiv, 1) := by decide +kernel
theorem d_LW_blockFor_48 : decode b_LW_blockFor 48 = .ok (.goto 4, 3) := by decide +kernel
theorem d_LW_blockFor_51 : decode b_LW_blockFor 51 = .ok (.iconst (-1), 1) := by decide +kernel
theorem d_LW_blockFor_52 : decode b_LW_blockFor 52 = .ok (.ireturn, 1) := by decide +kernel
theorem d_LW_jumpAll_0 : decode b_LW_jumpAll 0 = .ok (.iconst 0, 1) := by decide +kernel
theorem d_LW_jumpAll_1 : decode b_LW_jumpAll 1 = .ok (.istore_n 2, 1) := by decide +kernel
theorem d_LW_jumpAll_2 : decode b_LW_jumpAll 2 = .ok (.iload_n 2, 1) := by decide +kernel
theorem d_LW_jumpAll_3 : decode b_LW_jumpAll 3 = .ok (.bipush 12, 2) := by decide +kernel
theorem d_LW_jumpAll_5 : decode b_LW_jumpAll 5 = .ok (.if_icmp .ge 62, 3) := by decide +kernel
theorem d_LW_jumpAll_8 : decode b_LW_jumpAll 8 = .ok (.aload_n 0, 1) := by decide +kernel
theorem d_LW_jumpAll_9 : decode b_LW_jumpAll 9 = .ok (.iload_n 2, 1) := by decide +kernel
theorem d_LW_jumpAll_10 : decode b_LW_jumpAll 10 = .ok (.invokevirtual 125, 3) := by decide +kernel
theorem d_LW_jumpAll_13 : decode b_LW_jumpAll 13 = .ok (.iload_n 1, 1) := by decide +kernel
theorem d_LW_jumpAll_14 : decode b_LW_jumpAll 14 = .ok (.if_icmp .ge 47, 3) := by decide +kernel
theorem d_LW_jumpAll_17 : decode b_LW_jumpAll 17 = .ok (.aload_n 0, 1) := by decide +kernel
theorem d_LW_jumpAll_18 : decode b_LW_jumpAll 18 = .ok (.getfield 18, 3) := by decide +kernel
theorem d_LW_jumpAll_21 : decode b_LW_jumpAll 21 = .ok (.getfield 69, 3) := by decide +kernel
theorem d_LW_jumpAll_24 : decode b_LW_jumpAll 24 = .ok (.iload_n 2, 1) := by decide +kernel
theorem d_LW_jumpAll_25 : decode b_LW_jumpAll 25 = .ok (.aaload, 1) := by decide +kernel
theorem d_LW_jumpAll_26 : decode b_LW_jumpAll 26 = .ok (.aload_n 0, 1) := by decide +kernel
theorem d_LW_jumpAll_27 : decode b_LW_jumpAll 27 = .ok (.getfield 9, 3) := by decide +kernel
theorem d_LW_jumpAll_30 : decode b_LW_jumpAll 30 = .ok (.iload_n 2, 1) := by decide +kernel
theorem d_LW_jumpAll_31 : decode b_LW_jumpAll 31 = .ok (.iaload, 1) := by decide +kernel
theorem d_LW_jumpAll_32 : decode b_LW_jumpAll 32 = .ok (.iload_n 1, 1) := by decide +kernel
theorem d_LW_jumpAll_33 : decode b_LW_jumpAll 33 = .ok (.invokevirtual 152, 3) := by decide +kernel
theorem d_LW_jumpAll_36 : decode b_LW_jumpAll 36 = .ok (.istore_n 3, 1) := by decide +kernel
theorem d_LW_jumpAll_37 : decode b_LW_jumpAll 37 = .ok (.aload_n 0, 1) := by decide +kernel
theorem d_LW_jumpAll_38 : decode b_LW_jumpAll 38 = .ok (.dup, 1) := by decide +kernel
theorem d_LW_jumpAll_39 : decode b_LW_jumpAll 39 = .ok (.getfield 86, 3) := by decide +kernel
theorem d_LW_jumpAll_42 : decode b_LW_jumpAll 42 = .ok (.iload_n 3, 1) := by decide +kernel
theorem d_LW_jumpAll_43 : decode b_LW_jumpAll 43 = .ok (.aload_n 0, 1) := by decide +kernel
theorem d_LW_jumpAll_44 : decode b_LW_jumpAll 44 = .ok (.getfield 9, 3) := by decide +kernel
theorem d_LW_jumpAll_47 : decode b_LW_jumpAll 47 = .ok (.iload_n 2, 1) := by decide +kernel
theorem d_LW_jumpAll_48 : decode b_LW_jumpAll 48 = .ok (.iaload, 1) := by decide +kernel
theorem d_LW_jumpAll_49 : decode b_LW_jumpAll 49 = .ok (.isub, 1) := by decide +kernel
theorem d_LW_jumpAll_50 : decode b_LW_jumpAll 50 = .ok (.iadd, 1) := by decide +kernel
theorem d_LW_jumpAll_51 : decode b_LW_jumpAll 51 = .ok (.putfield 86, 3) := by decide +kernel
theorem d_LW_jumpAll_54 : decode b_LW_jumpAll 54 = .ok (.aload_n 0, 1) := by decide +kernel
theorem d_LW_jumpAll_55 : decode b_LW_jumpAll 55 = .ok (.getfield 9, 3) := by decide +kernel
theorem d_LW_jumpAll_58 : decode b_LW_jumpAll 58 = .ok (.iload_n 2, 1) := by decide +kernel
theorem d_LW_jumpAll_59 : decode b_LW_jumpAll 59 = .ok (.iload_n 3, 1) := by decide +kernel
theorem d_LW_jumpAll_60 : decode b_LW_jumpAll 60 = .ok (.iastore, 1) := by decide +kernel
theorem d_LW_jumpAll_61 : decode b_LW_jumpAll 61 = .ok (.iinc 2 1, 3) := by decide +kernel
theorem d_LW_jumpAll_64 : decode b_LW_jumpAll 64 = .ok (.goto (-62), 3) := by decide +kernel
theorem d_LW_jumpAll_67 : decode b_LW_jumpAll 67 = .ok (.return_, 1) := by decide +kernel
theorem d_LW_judge_0 : decode b_LW_judge 0 = .ok (.aload_n 0, 1) := by decide +kernel
theorem d_LW_judge_1 : decode b_LW_judge 1 = .ok (.dup, 1) := by decide +kernel
theorem d_LW_judge_2 : decode b_LW_judge 2 = .ok (.getfield 80, 3) := by decide +kernel
theorem d_LW_judge_5 : decode b_LW_judge 5 = .ok (.iconst 1, 1) := by decide +kernel
theorem d_LW_judge_6 : decode b_LW_judge 6 = .ok (.iadd, 1) := by decide +kernel
theorem d_LW_judge_7 : decode b_LW_judge 7 = .ok (.putfield 80, 3) := by decide +kernel
theorem d_LW_judge_10 : decode b_LW_judge 10 = .ok (.aload_n 0, 1) := by decide +kernel
theorem d_LW_judge_11 : decode b_LW_judge 11 = .ok (.getfield 22, 3) := by decide +kernel
theorem d_LW_judge_14 : decode b_LW_judge 14 = .ok (.iload_n 1, 1) := by decide +kernel
theorem d_LW_judge_15 : decode b_LW_judge 15 = .ok (.invokevirtual 158, 3) := by decide +kernel
theorem d_LW_judge_18 : decode b_LW_judge 18 = .ok (.istore_n 2, 1) := by decide +kernel
theorem d_LW_judge_19 : decode b_LW_judge 19 = .ok (.aload_n 0, 1) := by decide +kernel
theorem d_LW_judge_20 : decode b_LW_judge 20 = .ok (.getfield 22, 3) := by decide +kernel
theorem d_LW_judge_23 : decode b_LW_judge 23 = .ok (.iload_n 1, 1) := by decide +kernel
theorem d_LW_judge_24 : decode b_LW_judge 24 = .ok (.invokevirtual 161, 3) := by decide +kernel
theorem d_LW_judge_27 : decode b_LW_judge 27 = .ok (.ifCond .eq 34, 3) := by decide +kernel
theorem d_LW_judge_30 : decode b_LW_judge 30 = .ok (.aload_n 0, 1) := by decide +kernel
theorem d_LW_judge_31 : decode b_LW_judge 31 = .ok (.getfield 22, 3) := by decide +kernel
theorem d_LW_judge_34 : decode b_LW_judge 34 = .ok (.iload_n 2, 1) := by decide +kernel
theorem d_LW_judge_35 : decode b_LW_judge 35 = .ok (.iload_n 1, 1) := by decide +kernel
theorem d_LW_judge_36 : decode b_LW_judge 36 = .ok (.invokevirtual 164, 3) := by decide +kernel
theorem d_LW_judge_39 : decode b_LW_judge 39 = .ok (.ifCond .eq 22, 3) := by decide +kernel
theorem d_LW_judge_42 : decode b_LW_judge 42 = .ok (.aload_n 0, 1) := by decide +kernel
theorem d_LW_judge_43 : decode b_LW_judge 43 = .ok (.getfield 26, 3) := by decide +kernel
theorem d_LW_judge_46 : decode b_LW_judge 46 = .ok (.iload_n 1, 1) := by decide +kernel
theorem d_LW_judge_47 : decode b_LW_judge 47 = .ok (.iload_n 2, 1) := by decide +kernel
theorem d_LW_judge_48 : decode b_LW_judge 48 = .ok (.iload_n 2, 1) := by decide +kernel
theorem d_LW_judge_49 : decode b_LW_judge 49 = .ok (.aload_n 0, 1) := by decide +kernel
theorem d_LW_judge_50 : decode b_LW_judge 50 = .ok (.getfield 18, 3) := by decide +kernel
theorem d_LW_judge_53 : decode b_LW_judge 53 = .ok (.getfield 168, 3) := by decide +kernel
theorem d_LW_judge_56 : decode b_LW_judge 56 = .ok (.iload_n 1, 1) := by decide +kernel
theorem d_LW_judge_57 : decode b_LW_judge 57 = .ok (.iaload, 1) := by decide +kernel
theorem d_LW_judge_58 : decode b_LW_judge 58 = .ok (.invokevirtual 171, 3) := by decide +kernel
theorem d_LW_judge_61 : decode b_LW_judge 61 = .ok (.iconst 0, 1) := by decide +kernel
theorem d_LW_judge_62 : decode b_LW_judge 62 = .ok (.istore_n 3, 1) := by decide +kernel
theorem d_LW_judge_63 : decode b_LW_judge 63 = .ok (.iload_n 3, 1) := by decide +kernel
theorem d_LW_judge_64 : decode b_LW_judge 64 = .ok (.bipush 12, 2) := by decide +kernel
theorem d_LW_judge_66 : decode b_LW_judge 66 = .ok (.if_icmp .ge 28, 3) := by decide +kernel
theorem d_LW_judge_69 : decode b_LW_judge 69 = .ok (.aload_n 0, 1) := by decide +kernel
theorem d_LW_judge_70 : decode b_LW_judge 70 = .ok (.iload_n 3, 1) := by decide +kernel
theorem d_LW_judge_71 : decode b_LW_judge 71 = .ok (.invokevirtual 125, 3) := by decide +kernel
theorem d_LW_judge_74 : decode b_LW_judge 74 = .ok (.iload_n 1, 1) := by decide +kernel
theorem d_LW_judge_75 : decode b_LW_judge 75 = .ok (.if_icmp .ne 13, 3) := by decide +kernel
theorem d_LW_judge_78 : decode b_LW_judge 78 = .ok (.aload_n 0, 1) := by decide +kernel
theorem d_LW_judge_79 : decode b_LW_judge 79 = .ok (.getfield 9, 3) := by decide +kernel
theorem d_LW_judge_82 : decode b_LW_judge 82 = .ok (.iload_n 3, 1) := by decide +kernel
theorem d_LW_judge_83 : decode b_LW_judge 83 = .ok (.dup2, 1) := by decide +kernel
theorem d_LW_judge_84 : decode b_LW_judge 84 = .ok (.iaload, 1) := by decide +kernel
theorem d_LW_judge_85 : decode b_LW_judge 85 = .ok (.iconst 1, 1) := by decide +kernel
theorem d_LW_judge_86 : decode b_LW_judge 86 = .ok (.iadd, 1) := by decide +kernel
theorem d_LW_judge_87 : decode b_LW_judge 87 = .ok (.iastore, 1) := by decide +kernel
theorem d_LW_judge_88 : decode b_LW_judge 88 = .ok (.iinc 3 1, 3) := by decide +kernel
theorem d_LW_judge_91 : decode b_LW_judge 91 = .ok (.goto (-28), 3) := by decide +kernel
theorem d_LW_judge_94 : decode b_LW_judge 94 = .ok (.return_, 1) := by decide +kernel
theorem d_QU_init_0 : decode b_QU_init 0 = .ok (.aload_n 0, 1) := by decide +kernel
theorem d_QU_init_1 : decode b_QU_init 1 = .ok (.invokespecial 3, 3) := by decide +kernel
theorem d_QU_init_4 : decode b_QU_init 4 = .ok (.aload_n 0, 1) := by decide +kernel
theorem d_QU_init_5 : decode b_QU_init 5 = .ok (.bipush 12, 2) := by decide +kernel
theorem d_QU_init_7 : decode b_QU_init 7 = .ok (.newarray .int, 2) := by decide +kernel
theorem d_QU_init_9 : decode b_QU_init 9 = .ok (.putfield 9, 3) := by decide +kernel
theorem d_QU_init_12 : decode b_QU_init 12 = .ok (.aload_n 0, 1) := by decide +kernel
theorem d_QU_init_13 : decode b_QU_init 13 = .ok (.bipush 12, 2) := by decide +kernel
theorem d_QU_init_15 : decode b_QU_init 15 = .ok (.newarray .int, 2) := by decide +kernel
theorem d_QU_init_17 : decode b_QU_init 17 = .ok (.putfield 15, 3) := by decide +kernel
theorem d_QU_init_20 : decode b_QU_init 20 = .ok (.aload_n 0, 1) := by decide +kernel
theorem d_QU_init_21 : decode b_QU_init 21 = .ok (.bipush 10, 2) := by decide +kernel
theorem d_QU_init_23 : decode b_QU_init 23 = .ok (.putfield 18, 3) := by decide +kernel
theorem d_QU_init_26 : decode b_QU_init 26 = .ok (.aload_n 0, 1) := by decide +kernel
theorem d_QU_init_27 : decode b_QU_init 27 = .ok (.aload_n 1, 1) := by decide +kernel
theorem d_QU_init_28 : decode b_QU_init 28 = .ok (.putfield 22, 3) := by decide +kernel
theorem d_QU_init_31 : decode b_QU_init 31 = .ok (.iconst 0, 1) := by decide +kernel
theorem d_QU_init_32 : decode b_QU_init 32 = .ok (.istore_n 2, 1) := by decide +kernel
theorem d_QU_init_33 : decode b_QU_init 33 = .ok (.iload_n 2, 1) := by decide +kernel
theorem d_QU_init_34 : decode b_QU_init 34 = .ok (.bipush 12, 2) := by decide +kernel
theorem d_QU_init_36 : decode b_QU_init 36 = .ok (.if_icmp .ge 23, 3) := by decide +kernel
theorem d_QU_init_39 : decode b_QU_init 39 = .ok (.aload_n 0, 1) := by decide +kernel
theorem d_QU_init_40 : decode b_QU_init 40 = .ok (.getfield 9, 3) := by decide +kernel
theorem d_QU_init_43 : decode b_QU_init 43 = .ok (.iload_n 2, 1) := by decide +kernel
theorem d_QU_init_44 : decode b_QU_init 44 = .ok (.iconst 0, 1) := by decide +kernel
theorem d_QU_init_45 : decode b_QU_init 45 = .ok (.iastore, 1) := by decide +kernel
theorem d_QU_init_46 : decode b_QU_init 46 = .ok (.aload_n 0, 1) := by decide +kernel
theorem d_QU_init_47 : decode b_QU_init 47 = .ok (.getfield 15, 3) := by decide +kernel
theorem d_QU_init_50 : decode b_QU_init 50 = .ok (.iload_n 2, 1) := by decide +kernel
theorem d_QU_init_51 : decode b_QU_init 51 = .ok (.iconst 1, 1) := by decide +kernel
theorem d_QU_init_52 : decode b_QU_init 52 = .ok (.iastore, 1) := by decide +kernel
theorem d_QU_init_53 : decode b_QU_init 53 = .ok (.iinc 2 1, 3) := by decide +kernel
theorem d_QU_init_56 : decode b_QU_init 56 = .ok (.goto (-23), 3) := by decide +kernel
theorem d_QU_init_59 : decode b_QU_init 59 = .ok (.return_, 1) := by decide +kernel
theorem d_QU_asksFor_0 : decode b_QU_asksFor 0 = .ok (.aload_n 0, 1) := by decide +kernel
theorem d_QU_asksFor_1 : decode b_QU_asksFor 1 = .ok (.getfield 9, 3) := by decide +kernel
theorem d_QU_asksFor_4 : decode b_QU_asksFor 4 = .ok (.iload_n 1, 1) := by decide +kernel
theorem d_QU_asksFor_5 : decode b_QU_asksFor 5 = .ok (.iaload, 1) := by decide +kernel
theorem d_QU_asksFor_6 : decode b_QU_asksFor 6 = .ok (.iconst 1, 1) := by decide +kernel
theorem d_QU_asksFor_7 : decode b_QU_asksFor 7 = .ok (.if_icmp .eq 13, 3) := by decide +kernel
theorem d_QU_asksFor_10 : decode b_QU_asksFor 10 = .ok (.aload_n 0, 1) := by decide +kernel
theorem d_QU_asksFor_11 : decode b_QU_asksFor 11 = .ok (.getfield 9, 3) := by decide +kernel
theorem d_QU_asksFor_14 : decode b_QU_asksFor 14 = .ok (.iload_n 1, 1) := by decide +kernel
theorem d_QU_asksFor_15 : decode b_QU_asksFor 15 = .ok (.iaload, 1) := by decide +kernel
theorem d_QU_asksFor_16 : decode b_QU_asksFor 16 = .ok (.iconst 2, 1) := by decide +kernel
theorem d_QU_asksFor_17 : decode b_QU_asksFor 17 = .ok (.if_icmp .ne 7, 3) := by decide +kernel
theorem d_QU_asksFor_20 : decode b_QU_asksFor 20 = .ok (.iconst 1, 1) := by decide +kernel
theorem d_QU_asksFor_21 : decode b_QU_asksFor 21 = .ok (.goto 4, 3) := by decide +kernel
theorem d_QU_asksFor_24 : decode b_QU_asksFor 24 = .ok (.iconst 0, 1) := by decide +kernel
theorem d_QU_asksFor_25 : decode b_QU_asksFor 25 = .ok (.ireturn, 1) := by decide +kernel
theorem d_QU_listsOfSort_0 : decode b_QU_listsOfSort 0 = .ok (.iconst 0, 1) := by decide +kernel
theorem d_QU_listsOfSort_1 : decode b_QU_listsOfSort 1 = .ok (.istore_n 2, 1) := by decide +kernel
theorem d_QU_listsOfSort_2 : decode b_QU_listsOfSort 2 = .ok (.iconst 0, 1) := by decide +kernel
theorem d_QU_listsOfSort_3 : decode b_QU_listsOfSort 3 = .ok (.istore_n 3, 1) := by decide +kernel
theorem d_QU_listsOfSort_4 : decode b_QU_listsOfSort 4 = .ok (.iload_n 3, 1) := by decide +kernel
theorem d_QU_listsOfSort_5 : decode b_QU_listsOfSort 5 = .ok (.bipush 12, 2) := by decide +kernel
theorem d_QU_listsOfSort_7 : decode b_QU_listsOfSort 7 = .ok (.if_icmp .ge 22, 3) := by decide +kernel
theorem d_QU_listsOfSort_10 : decode b_QU_listsOfSort 10 = .ok (.aload_n 0, 1) := by decide +kernel
theorem d_QU_listsOfSort_11 : decode b_QU_listsOfSort 11 = .ok (.getfield 9, 3) := by decide +kernel
theorem d_QU_listsOfSort_14 : decode b_QU_listsOfSort 14 = .ok (.iload_n 3, 1) := by decide +kernel
theorem d_QU_listsOfSort_15 : decode b_QU_listsOfSort 15 = .ok (.iaload, 1) := by decide +kernel
theorem d_QU_listsOfSort_16 : decode b_QU_listsOfSort 16 = .ok (.iload_n 1, 1) := by decide +kernel
theorem d_QU_listsOfSort_17 : decode b_QU_listsOfSort 17 = .ok (.if_icmp .ne 6, 3) := by decide +kernel
theorem d_QU_listsOfSort_20 : decode b_QU_listsOfSort 20 = .ok (.iinc 2 1, 3) := by decide +kernel
theorem d_QU_listsOfSort_23 : decode b_QU_listsOfSort 23 = .ok (.iinc 3 1, 3) := by decide +kernel
theorem d_QU_listsOfSort_26 : decode b_QU_listsOfSort 26 = .ok (.goto (-22), 3) := by decide +kernel
theorem d_QU_listsOfSort_29 : decode b_QU_listsOfSort 29 = .ok (.iload_n 2, 1) := by decide +kernel
theorem d_QU_listsOfSort_30 : decode b_QU_listsOfSort 30 = .ok (.ireturn, 1) := by decide +kernel
theorem d_QU_admits_0 : decode b_QU_admits 0 = .ok (.iconst 0, 1) := by decide +kernel
theorem d_QU_admits_1 : decode b_QU_admits 1 = .ok (.istore_n 2, 1) := by decide +kernel
theorem d_QU_admits_2 : decode b_QU_admits 2 = .ok (.iconst 0, 1) := by decide +kernel
theorem d_QU_admits_3 : decode b_QU_admits 3 = .ok (.istore_n 3, 1) := by decide +kernel
theorem d_QU_admits_4 : decode b_QU_admits 4 = .ok (.iload_n 3, 1) := by decide +kernel
theorem d_QU_admits_5 : decode b_QU_admits 5 = .ok (.bipush 12, 2) := by decide +kernel
theorem d_QU_admits_7 : decode b_QU_admits 7 = .ok (.if_icmp .ge 86, 3) := by decide +kernel
theorem d_QU_admits_10 : decode b_QU_admits 10 = .ok (.aload_n 0, 1) := by decide +kernel
theorem d_QU_admits_11 : decode b_QU_admits 11 = .ok (.getfield 22, 3) := by decide +kernel
theorem d_QU_admits_14 : decode b_QU_admits 14 = .ok (.getfield 26, 3) := by decide +kernel
theorem d_QU_admits_17 : decode b_QU_admits 17 = .ok (.iload_n 3, 1) := by decide +kernel
theorem d_QU_admits_18 : decode b_QU_admits 18 = .ok (.aaload, 1) := by decide +kernel
theorem d_QU_admits_19 : decode b_QU_admits 19 = .ok (.getfield 32, 3) := by decide +kernel
theorem d_QU_admits_22 : decode b_QU_admits 22 = .ok (.iload_n 1, 1) := by decide +kernel
theorem d_QU_admits_23 : decode b_QU_admits 23 = .ok (.iaload, 1) := by decide +kernel
theorem d_QU_admits_24 : decode b_QU_admits 24 = .ok (.ifCond .le 7, 3) := by decide +kernel
theorem d_QU_admits_27 : decode b_QU_admits 27 = .ok (.iconst 1, 1) := by decide +kernel
theorem d_QU_admits_28 : decode b_QU_admits 28 = .ok (.goto 4, 3) := by decide +kernel
theorem d_QU_admits_31 : decode b_QU_admits 31 = .ok (.iconst 0, 1) := by decide +kernel
theorem d_QU_admits_32 : decode b_QU_admits 32 = .ok (.istore 4, 2) := by decide +kernel
theorem d_QU_admits_34 : decode b_QU_admits 34 = .ok (.iload 4, 2) := by decide +kernel
theorem d_QU_admits_36 : decode b_QU_admits 36 = .ok (.ifCond .eq 16, 3) := by decide +kernel
theorem d_QU_admits_39 : decode b_QU_admits 39 = .ok (.aload_n 0, 1) := by decide +kernel
theorem d_QU_admits_40 : decode b_QU_admits 40 = .ok (.getfield 9, 3) := by decide +kernel
theorem d_QU_admits_43 : decode b_QU_admits 43 = .ok (.iload_n 3, 1) := by decide +kernel
theorem d_QU_admits_44 : decode b_QU_admits 44 = .ok (.iaload, 1) := by decide +kernel
theorem d_QU_admits_45 : decode b_QU_admits 45 = .ok (.iconst 3, 1) := by decide +kernel
theorem d_QU_admits_46 : decode b_QU_admits 46 = .ok (.if_icmp .ne 18, 3) := by decide +kernel
theorem d_QU_admits_49 : decode b_QU_admits 49 = .ok (.goto 13, 3) := by decide +kernel
theorem d_QU_admits_52 : decode b_QU_admits 52 = .ok (.aload_n 0, 1) := by decide +kernel
theorem d_QU_admits_53 : decode b_QU_admits 53 = .ok (.getfield 9, 3) := by decide +kernel
theorem d_QU_admits_56 : decode b_QU_admits 56 = .ok (.iload_n 3, 1) := by decide +kernel
theorem d_QU_admits_57 : decode b_QU_admits 57 = .ok (.iaload, 1) := by decide +kernel
theorem d_QU_admits_58 : decode b_QU_admits 58 = .ok (.iconst 2, 1) := by decide +kernel
theorem d_QU_admits_59 : decode b_QU_admits 59 = .ok (.if_icmp .ne 5, 3) := by decide +kernel
theorem d_QU_admits_62 : decode b_QU_admits 62 = .ok (.iconst 0, 1) := by decide +kernel
theorem d_QU_admits_63 : decode b_QU_admits 63 = .ok (.ireturn, 1) := by decide +kernel
theorem d_QU_admits_64 : decode b_QU_admits 64 = .ok (.iload_n 2, 1) := by decide +kernel
theorem d_QU_admits_65 : decode b_QU_admits 65 = .ok (.ifCond .ne 16, 3) := by decide +kernel
theorem d_QU_admits_68 : decode b_QU_admits 68 = .ok (.iload 4, 2) := by decide +kernel
theorem d_QU_admits_70 : decode b_QU_admits 70 = .ok (.ifCond .eq 15, 3) := by decide +kernel
theorem d_QU_admits_73 : decode b_QU_admits 73 = .ok (.aload_n 0, 1) := by decide +kernel
theorem d_QU_admits_74 : decode b_QU_admits 74 = .ok (.iload_n 3, 1) := by decide +kernel
theorem d_QU_admits_75 : decode b_QU_admits 75 = .ok (.invokevirtual 37, 3) := by decide +kernel
theorem d_QU_admits_78 : decode b_QU_admits 78 = .ok (.ifCond .eq 7, 3) := by decide +kernel
theorem d_QU_admits_81 : decode b_QU_admits 81 = .ok (.iconst 1, 1) := by decide +kernel
theorem d_QU_admits_82 : decode b_QU_admits 82 = .ok (.goto 4, 3) := by decide +kernel
theorem d_QU_admits_85 : decode b_QU_admits 85 = .ok (.iconst 0, 1) := by decide +kernel
theorem d_QU_admits_86 : decode b_QU_admits 86 = .ok (.istore_n 2, 1) := by decide +kernel
theorem d_QU_admits_87 : decode b_QU_admits 87 = .ok (.iinc 3 1, 3) := by decide +kernel
theorem d_QU_admits_90 : decode b_QU_admits 90 = .ok (.goto (-86), 3) := by decide +kernel
theorem d_QU_admits_93 : decode b_QU_admits 93 = .ok (.iload_n 2, 1) := by decide +kernel
theorem d_QU_admits_94 : decode b_QU_admits 94 = .ok (.ireturn, 1) := by decide +kernel
theorem d_QU_sumOf_0 : decode b_QU_sumOf 0 = .ok (.iconst 0, 1) := by decide +kernel
theorem d_QU_sumOf_1 : decode b_QU_sumOf 1 = .ok (.istore_n 2, 1) := by decide +kernel
theorem d_QU_sumOf_2 : decode b_QU_sumOf 2 = .ok (.iconst 0, 1) := by decide +kernel
theorem d_QU_sumOf_3 : decode b_QU_sumOf 3 = .ok (.istore_n 3, 1) := by decide +kernel
theorem d_QU_sumOf_4 : decode b_QU_sumOf 4 = .ok (.iload_n 3, 1) := by decide +kernel
theorem d_QU_sumOf_5 : decode b_QU_sumOf 5 = .ok (.bipush 12, 2) := by decide +kernel
theorem d_QU_sumOf_7 : decode b_QU_sumOf 7 = .ok (.if_icmp .ge 41, 3) := by decide +kernel
theorem d_QU_sumOf_10 : decode b_QU_sumOf 10 = .ok (.aload_n 0, 1) := by decide +kernel
theorem d_QU_sumOf_11 : decode b_QU_sumOf 11 = .ok (.iload_n 3, 1) := by decide +kernel
theorem d_QU_sumOf_12 : decode b_QU_sumOf 12 = .ok (.invokevirtual 37, 3) := by decide +kernel
theorem d_QU_sumOf_15 : decode b_QU_sumOf 15 = .ok (.ifCond .eq 27, 3) := by decide +kernel
theorem d_QU_sumOf_18 : decode b_QU_sumOf 18 = .ok (.iload_n 2, 1) := by decide +kernel
theorem d_QU_sumOf_19 : decode b_QU_sumOf 19 = .ok (.aload_n 0, 1) := by decide +kernel
theorem d_QU_sumOf_20 : decode b_QU_sumOf 20 = .ok (.getfield 15, 3) := by decide +kernel
theorem d_QU_sumOf_23 : decode b_QU_sumOf 23 = .ok (.iload_n 3, 1) := by decide +kernel
theorem d_QU_sumOf_24 : decode b_QU_sumOf 24 = .ok (.iaload, 1) := by decide +kernel
theorem d_QU_sumOf_25 : decode b_QU_sumOf 25 = .ok (.aload_n 0, 1) := by decide +kernel
theorem d_QU_sumOf_26 : decode b_QU_sumOf 26 = .ok (.getfield 22, 3) := by decide +kernel
theorem d_QU_sumOf_29 : decode b_QU_sumOf 29 = .ok (.getfield 26, 3) := by decide +kernel
theorem d_QU_sumOf_32 : decode b_QU_sumOf 32 = .ok (.iload_n 3, 1) := by decide +kernel
theorem d_QU_sumOf_33 : decode b_QU_sumOf 33 = .ok (.aaload, 1) := by decide +kernel
theorem d_QU_sumOf_34 : decode b_QU_sumOf 34 = .ok (.getfield 32, 3) := by decide +kernel
theorem d_QU_sumOf_37 : decode b_QU_sumOf 37 = .ok (.iload_n 1, 1) := by decide +kernel
theorem d_QU_sumOf_38 : decode b_QU_sumOf 38 = .ok (.iaload, 1) := by decide +kernel
theorem d_QU_sumOf_39 : decode b_QU_sumOf 39 = .ok (.imul, 1) := by decide +kernel
theorem d_QU_sumOf_40 : decode b_QU_sumOf 40 = .ok (.iadd, 1) := by decide +kernel
theorem d_QU_sumOf_41 : decode b_QU_sumOf 41 = .ok (.istore_n 2, 1) := by decide +kernel
theorem d_QU_sumOf_42 : decode b_QU_sumOf 42 = .ok (.iinc 3 1, 3) := by decide +kernel
theorem d_QU_sumOf_45 : decode b_QU_sumOf 45 = .ok (.goto (-41), 3) := by decide +kernel
theorem d_QU_sumOf_48 : decode b_QU_sumOf 48 = .ok (.iload_n 2, 1) := by decide +kernel
theorem d_QU_sumOf_49 : decode b_QU_sumOf 49 = .ok (.ireturn, 1) := by decide +kernel
theorem d_QU_isBehindPlace_0 : decode b_QU_isBehindPlace 0 = .ok (.aload_n 0, 1) := by decide +kernel
theorem d_QU_isBehindPlace_1 : decode b_QU_isBehindPlace 1 = .ok (.getfield 41, 3) := by decide +kernel
theorem d_QU_isBehindPlace_4 : decode b_QU_isBehindPlace 4 = .ok (.ifCond .eq 11, 3) := by decide +kernel
theorem d_QU_isBehindPlace_7 : decode b_QU_isBehindPlace 7 = .ok (.iload_n 1, 1) := by decide +kernel
theorem d_QU_isBehindPlace_8 : decode b_QU_isBehindPlace 8 = .ok (.aload_n 0, 1) := by decide +kernel
theorem d_QU_isBehindPlace_9 : decode b_QU_isBehindPlace 9 = .ok (.getfield 45, 3) := by decide +kernel
theorem d_QU_isBehindPlace_12 : decode b_QU_isBehindPlace 12 = .ok (.if_icmp .ge 5, 3) := by decide +kernel
theorem d_QU_isBehindPlace_15 : decode b_QU_isBehindPlace 15 = .ok (.iconst 1, 1) := by decide +kernel
theorem d_QU_isBehindPlace_16 : decode b_QU_isBehindPlace 16 = .ok (.ireturn, 1) := by decide +kernel
theorem d_QU_isBehindPlace_17 : decode b_QU_isBehindPlace 17 = .ok (.iload_n 1, 1) := by decide +kernel
theorem d_QU_isBehindPlace_18 : decode b_QU_isBehindPlace 18 = .ok (.aload_n 0, 1) := by decide +kernel
theorem d_QU_isBehindPlace_19 : decode b_QU_isBehindPlace 19 = .ok (.getfield 45, 3) := by decide +kernel
theorem d_QU_isBehindPlace_22 : decode b_QU_isBehindPlace 22 = .ok (.if_icmp .ne 15, 3) := by decide +kernel
theorem d_QU_isBehindPlace_25 : decode b_QU_isBehindPlace 25 = .ok (.iload_n 2, 1) := by decide +kernel
theorem d_QU_isBehindPlace_26 : decode b_QU_isBehindPlace 26 = .ok (.aload_n 0, 1) := by decide +kernel
theorem d_QU_isBehindPlace_27 : decode b_QU_isBehindPlace 27 = .ok (.getfield 48, 3) := by decide +kernel
theorem d_QU_isBehindPlace_30 : decode b_QU_isBehindPlace 30 = .ok (.if_icmp .le 7, 3) := by decide +kernel
theorem d_QU_isBehindPlace_33 : decode b_QU_isBehindPlace 33 = .ok (.iconst 1, 1) := by decide +kernel
theorem d_QU_isBehindPlace_34 : decode b_QU_isBehindPlace 34 = .ok (.goto 4, 3) := by decide +kernel
theorem d_QU_isBehindPlace_37 : decode b_QU_isBehindPlace 37 = .ok (.iconst 0, 1) := by decide +kernel
theorem d_QU_isBehindPlace_38 : decode b_QU_isBehindPlace 38 = .ok (.ireturn, 1) := by decide +kernel
theorem d_RK_init_0 : decode b_RK_init 0 = .ok (.aload_n 0, 1) := by decide +kernel
theorem d_RK_init_1 : decode b_RK_init 1 = .ok (.invokespecial 3, 3) := by decide +kernel
theorem d_RK_init_4 : decode b_RK_init 4 = .ok (.aload_n 0, 1) := by decide +kernel
theorem d_RK_init_5 : decode b_RK_init 5 = .ok (.bipush 20, 2) := by decide +kernel
theorem d_RK_init_7 : decode b_RK_init 7 = .ok (.newarray .int, 2) := by decide +kernel
theorem d_RK_init_9 : decode b_RK_init 9 = .ok (.putfield 9, 3) := by decide +kernel
theorem d_RK_init_12 : decode b_RK_init 12 = .ok (.aload_n 0, 1) := by decide +kernel
theorem d_RK_init_13 : decode b_RK_init 13 = .ok (.bipush 20, 2) := by decide +kernel
theorem d_RK_init_15 : decode b_RK_init 15 = .ok (.newarray .int, 2) := by decide +kernel
theorem d_RK_init_17 : decode b_RK_init 17 = .ok (.putfield 15, 3) := by decide +kernel
theorem d_RK_init_20 : decode b_RK_init 20 = .ok (.aload_n 0, 1) := by decide +kernel
theorem d_RK_init_21 : decode b_RK_init 21 = .ok (.bipush 20, 2) := by decide +kernel
theorem d_RK_init_23 : decode b_RK_init 23 = .ok (.newarray .int, 2) := by decide +kernel
theorem d_RK_init_25 : decode b_RK_init 25 = .ok (.putfield 18, 3) := by decide +kernel
theorem d_RK_init_28 : decode b_RK_init 28 = .ok (.aload_n 0, 1) := by decide +kernel
theorem d_RK_init_29 : decode b_RK_init 29 = .ok (.bipush 20, 2) := by decide +kernel
theorem d_RK_init_31 : decode b_RK_init 31 = .ok (.newarray .int, 2) := by decide +kernel
theorem d_RK_init_33 : decode b_RK_init 33 = .ok (.putfield 21, 3) := by decide +kernel
theorem d_RK_init_36 : decode b_RK_init 36 = .ok (.return_, 1) := by decide +kernel
