theorem d_MD_move_0 : decode b_MD_move 0 = .ok (.aload_n 0, 1) := by decide +kernel
theorem d_MD_move_1 : decode b_MD_move 1 = .ok (.getfield 32, 3) := by decide +kernel
theorem d_MD_move_4 : decode b_MD_move 4 = .ok (.iload_n 2, 1) := by decide +kernel
theorem d_MD_move_5 : decode b_MD_move 5 = .ok (.aload_n 0, 1) := by decide +kernel
theorem d_MD_move_6 : decode b_MD_move 6 = .ok (.getfield 32, 3) := by decide +kernel
theorem d_MD_move_9 : decode b_MD_move 9 = .ok (.iload_n 1, 1) := by decide +kernel
theorem d_MD_move_10 : decode b_MD_move 10 = .ok (.iaload, 1) := by decide +kernel
theorem d_MD_move_11 : decode b_MD_move 11 = .ok (.iastore, 1) := by decide +kernel
theorem d_MD_move_12 : decode b_MD_move 12 = .ok (.aload_n 0, 1) := by decide +kernel
theorem d_MD_move_13 : decode b_MD_move 13 = .ok (.getfield 35, 3) := by decide +kernel
theorem d_MD_move_16 : decode b_MD_move 16 = .ok (.iload_n 2, 1) := by decide +kernel
theorem d_MD_move_17 : decode b_MD_move 17 = .ok (.aload_n 0, 1) := by decide +kernel
theorem d_MD_move_18 : decode b_MD_move 18 = .ok (.getfield 35, 3) := by decide +kernel
theorem d_MD_move_21 : decode b_MD_move 21 = .ok (.iload_n 1, 1) := by decide +kernel
theorem d_MD_move_22 : decode b_MD_move 22 = .ok (.iaload, 1) := by decide +kernel
theorem d_MD_move_23 : decode b_MD_move 23 = .ok (.iastore, 1) := by decide +kernel
theorem d_MD_move_24 : decode b_MD_move 24 = .ok (.aload_n 0, 1) := by decide +kernel
theorem d_MD_move_25 : decode b_MD_move 25 = .ok (.getfield 38, 3) := by decide +kernel
theorem d_MD_move_28 : decode b_MD_move 28 = .ok (.iload_n 2, 1) := by decide +kernel
theorem d_MD_move_29 : decode b_MD_move 29 = .ok (.aload_n 0, 1) := by decide +kernel
theorem d_MD_move_30 : decode b_MD_move 30 = .ok (.getfield 38, 3) := by decide +kernel
theorem d_MD_move_33 : decode b_MD_move 33 = .ok (.iload_n 1, 1) := by decide +kernel
theorem d_MD_move_34 : decode b_MD_move 34 = .ok (.iaload, 1) := by decide +kernel
theorem d_MD_move_35 : decode b_MD_move 35 = .ok (.iastore, 1) := by decide +kernel
theorem d_MD_move_36 : decode b_MD_move 36 = .ok (.aload_n 0, 1) := by decide +kernel
theorem d_MD_move_37 : decode b_MD_move 37 = .ok (.getfield 41, 3) := by decide +kernel
theorem d_MD_move_40 : decode b_MD_move 40 = .ok (.iload_n 2, 1) := by decide +kernel
theorem d_MD_move_41 : decode b_MD_move 41 = .ok (.aload_n 0, 1) := by decide +kernel
theorem d_MD_move_42 : decode b_MD_move 42 = .ok (.getfield 41, 3) := by decide +kernel
theorem d_MD_move_45 : decode b_MD_move 45 = .ok (.iload_n 1, 1) := by decide +kernel
theorem d_MD_move_46 : decode b_MD_move 46 = .ok (.iaload, 1) := by decide +kernel
theorem d_MD_move_47 : decode b_MD_move 47 = .ok (.iastore, 1) := by decide +kernel
theorem d_MD_move_48 : decode b_MD_move 48 = .ok (.return_, 1) := by decide +kernel
theorem d_MD_hold_0 : decode b_MD_hold 0 = .ok (.aload_n 0, 1) := by decide +kernel
theorem d_MD_hold_1 : decode b_MD_hold 1 = .ok (.getfield 76, 3) := by decide +kernel
theorem d_MD_hold_4 : decode b_MD_hold 4 = .ok (.istore_n 3, 1) := by decide +kernel
theorem d_MD_hold_5 : decode b_MD_hold 5 = .ok (.iload_n 3, 1) := by decide +kernel
theorem d_MD_hold_6 : decode b_MD_hold 6 = .ok (.ifCond .le 53, 3) := by decide +kernel
theorem d_MD_hold_9 : decode b_MD_hold 9 = .ok (.aload_n 0, 1) := by decide +kernel
theorem d_MD_hold_10 : decode b_MD_hold 10 = .ok (.getfield 35, 3) := by decide +kernel
theorem d_MD_hold_13 : decode b_MD_hold 13 = .ok (.iload_n 3, 1) := by decide +kernel
theorem d_MD_hold_14 : decode b_MD_hold 14 = .ok (.iconst 1, 1) := by decide +kernel
theorem d_MD_hold_15 : decode b_MD_hold 15 = .ok (.isub, 1) := by decide +kernel
theorem d_MD_hold_16 : decode b_MD_hold 16 = .ok (.iaload, 1) := by decide +kernel
theorem d_MD_hold_17 : decode b_MD_hold 17 = .ok (.iload_n 2, 1) := by decide +kernel
theorem d_MD_hold_18 : decode b_MD_hold 18 = .ok (.if_icmp .lt 27, 3) := by decide +kernel
theorem d_MD_hold_21 : decode b_MD_hold 21 = .ok (.aload_n 0, 1) := by decide +kernel
theorem d_MD_hold_22 : decode b_MD_hold 22 = .ok (.getfield 35, 3) := by decide +kernel
theorem d_MD_hold_25 : decode b_MD_hold 25 = .ok (.iload_n 3, 1) := by decide +kernel
theorem d_MD_hold_26 : decode b_MD_hold 26 = .ok (.iconst 1, 1) := by decide +kernel
theorem d_MD_hold_27 : decode b_MD_hold 27 = .ok (.isub, 1) := by decide +kernel
theorem d_MD_hold_28 : decode b_MD_hold 28 = .ok (.iaload, 1) := by decide +kernel
theorem d_MD_hold_29 : decode b_MD_hold 29 = .ok (.iload_n 2, 1) := by decide +kernel
theorem d_MD_hold_30 : decode b_MD_hold 30 = .ok (.if_icmp .ne 29, 3) := by decide +kernel
theorem d_MD_hold_33 : decode b_MD_hold 33 = .ok (.aload_n 0, 1) := by decide +kernel
theorem d_MD_hold_34 : decode b_MD_hold 34 = .ok (.getfield 32, 3) := by decide +kernel
theorem d_MD_hold_37 : decode b_MD_hold 37 = .ok (.iload_n 3, 1) := by decide +kernel
theorem d_MD_hold_38 : decode b_MD_hold 38 = .ok (.iconst 1, 1) := by decide +kernel
theorem d_MD_hold_39 : decode b_MD_hold 39 = .ok (.isub, 1) := by decide +kernel
theorem d_MD_hold_40 : decode b_MD_hold 40 = .ok (.iaload, 1) := by decide +kernel
theorem d_MD_hold_41 : decode b_MD_hold 41 = .ok (.iload_n 1, 1) := by decide +kernel
theorem d_MD_hold_42 : decode b_MD_hold 42 = .ok (.if_icmp .le 17, 3) := by decide +kernel
theorem d_MD_hold_45 : decode b_MD_hold 45 = .ok (.aload_n 0, 1) := by decide +kernel
theorem d_MD_hold_46 : decode b_MD_hold 46 = .ok (.iload_n 3, 1) := by decide +kernel
theorem d_MD_hold_47 : decode b_MD_hold 47 = .ok (.iconst 1, 1) := by decide +kernel
theorem d_MD_hold_48 : decode b_MD_hold 48 = .ok (.isub, 1) := by decide +kernel
theorem d_MD_hold_49 : decode b_MD_hold 49 = .ok (.iload_n 3, 1) := by decide +kernel
theorem d_MD_hold_50 : decode b_MD_hold 50 = .ok (.invokevirtual 79, 3) := by decide +kernel
theorem d_MD_hold_53 : decode b_MD_hold 53 = .ok (.iinc 3 (-1), 3) := by decide +kernel
theorem d_MD_hold_56 : decode b_MD_hold 56 = .ok (.goto (-51), 3) := by decide +kernel
theorem d_MD_hold_59 : decode b_MD_hold 59 = .ok (.aload_n 0, 1) := by decide +kernel
theorem d_MD_hold_60 : decode b_MD_hold 60 = .ok (.getfield 32, 3) := by decide +kernel
theorem d_MD_hold_63 : decode b_MD_hold 63 = .ok (.iload_n 3, 1) := by decide +kernel
theorem d_MD_hold_64 : decode b_MD_hold 64 = .ok (.iload_n 1, 1) := by decide +kernel
theorem d_MD_hold_65 : decode b_MD_hold 65 = .ok (.iastore, 1) := by decide +kernel
theorem d_MD_hold_66 : decode b_MD_hold 66 = .ok (.aload_n 0, 1) := by decide +kernel
theorem d_MD_hold_67 : decode b_MD_hold 67 = .ok (.getfield 35, 3) := by decide +kernel
theorem d_MD_hold_70 : decode b_MD_hold 70 = .ok (.iload_n 3, 1) := by decide +kernel
theorem d_MD_hold_71 : decode b_MD_hold 71 = .ok (.iload_n 2, 1) := by decide +kernel
theorem d_MD_hold_72 : decode b_MD_hold 72 = .ok (.iastore, 1) := by decide +kernel
theorem d_MD_hold_73 : decode b_MD_hold 73 = .ok (.aload_n 0, 1) := by decide +kernel
theorem d_MD_hold_74 : decode b_MD_hold 74 = .ok (.getfield 38, 3) := by decide +kernel
theorem d_MD_hold_77 : decode b_MD_hold 77 = .ok (.iload_n 3, 1) := by decide +kernel
theorem d_MD_hold_78 : decode b_MD_hold 78 = .ok (.aload_n 0, 1) := by decide +kernel
theorem d_MD_hold_79 : decode b_MD_hold 79 = .ok (.iload_n 1, 1) := by decide +kernel
theorem d_MD_hold_80 : decode b_MD_hold 80 = .ok (.invokevirtual 73, 3) := by decide +kernel
theorem d_MD_hold_83 : decode b_MD_hold 83 = .ok (.iastore, 1) := by decide +kernel
theorem d_MD_hold_84 : decode b_MD_hold 84 = .ok (.aload_n 0, 1) := by decide +kernel
theorem d_MD_hold_85 : decode b_MD_hold 85 = .ok (.getfield 41, 3) := by decide +kernel
theorem d_MD_hold_88 : decode b_MD_hold 88 = .ok (.iload_n 3, 1) := by decide +kernel
theorem d_MD_hold_89 : decode b_MD_hold 89 = .ok (.aload_n 0, 1) := by decide +kernel
theorem d_MD_hold_90 : decode b_MD_hold 90 = .ok (.getfield 17, 3) := by decide +kernel
theorem d_MD_hold_93 : decode b_MD_hold 93 = .ok (.iload_n 1, 1) := by decide +kernel
theorem d_MD_hold_94 : decode b_MD_hold 94 = .ok (.iaload, 1) := by decide +kernel
theorem d_MD_hold_95 : decode b_MD_hold 95 = .ok (.iastore, 1) := by decide +kernel
theorem d_MD_hold_96 : decode b_MD_hold 96 = .ok (.aload_n 0, 1) := by decide +kernel
theorem d_MD_hold_97 : decode b_MD_hold 97 = .ok (.aload_n 0, 1) := by decide +kernel
theorem d_MD_hold_98 : decode b_MD_hold 98 = .ok (.getfield 76, 3) := by decide +kernel
theorem d_MD_hold_101 : decode b_MD_hold 101 = .ok (.aload_n 0, 1) := by decide +kernel
theorem d_MD_hold_102 : decode b_MD_hold 102 = .ok (.getfield 26, 3) := by decide +kernel
theorem d_MD_hold_105 : decode b_MD_hold 105 = .ok (.if_icmp .ne 10, 3) := by decide +kernel
theorem d_MD_hold_108 : decode b_MD_hold 108 = .ok (.aload_n 0, 1) := by decide +kernel
theorem d_MD_hold_109 : decode b_MD_hold 109 = .ok (.getfield 76, 3) := by decide +kernel
theorem d_MD_hold_112 : decode b_MD_hold 112 = .ok (.goto 9, 3) := by decide +kernel
theorem d_MD_hold_115 : decode b_MD_hold 115 = .ok (.aload_n 0, 1) := by decide +kernel
theorem d_MD_hold_116 : decode b_MD_hold 116 = .ok (.getfield 76, 3) := by decide +kernel
theorem d_MD_hold_119 : decode b_MD_hold 119 = .ok (.iconst 1, 1) := by decide +kernel
theorem d_MD_hold_120 : decode b_MD_hold 120 = .ok (.iadd, 1) := by decide +kernel
theorem d_MD_hold_121 : decode b_MD_hold 121 = .ok (.putfield 76, 3) := by decide +kernel
theorem d_MD_hold_124 : decode b_MD_hold 124 = .ok (.return_, 1) := by decide +kernel
theorem d_MD_firstFrom_0 : decode b_MD_firstFrom 0 = .ok (.iload_n 2, 1) := by decide +kernel
theorem d_MD_firstFrom_1 : decode b_MD_firstFrom 1 = .ok (.istore_n 3, 1) := by decide +kernel
theorem d_MD_firstFrom_2 : decode b_MD_firstFrom 2 = .ok (.iload_n 3, 1) := by decide +kernel
theorem d_MD_firstFrom_3 : decode b_MD_firstFrom 3 = .ok (.sipush 512, 3) := by decide +kernel
theorem d_MD_firstFrom_6 : decode b_MD_firstFrom 6 = .ok (.if_icmp .ge 18, 3) := by decide +kernel
theorem d_MD_firstFrom_9 : decode b_MD_firstFrom 9 = .ok (.aload_n 0, 1) := by decide +kernel
theorem d_MD_firstFrom_10 : decode b_MD_firstFrom 10 = .ok (.iload_n 1, 1) := by decide +kernel
theorem d_MD_firstFrom_11 : decode b_MD_firstFrom 11 = .ok (.iload_n 3, 1) := by decide +kernel
theorem d_MD_firstFrom_12 : decode b_MD_firstFrom 12 = .ok (.invokevirtual 47, 3) := by decide +kernel
theorem d_MD_firstFrom_15 : decode b_MD_firstFrom 15 = .ok (.ifCond .ne 9, 3) := by decide +kernel
theorem d_MD_firstFrom_18 : decode b_MD_firstFrom 18 = .ok (.iinc 3 1, 3) := by decide +kernel
theorem d_MD_firstFrom_21 : decode b_MD_firstFrom 21 = .ok (.goto (-19), 3) := by decide +kernel
theorem d_MD_firstFrom_24 : decode b_MD_firstFrom 24 = .ok (.iload_n 3, 1) := by decide +kernel
theorem d_MD_firstFrom_25 : decode b_MD_firstFrom 25 = .ok (.ireturn, 1) := by decide +kernel
theorem d_MD_jump_0 : decode b_MD_jump 0 = .ok (.aload_n 0, 1) := by decide +kernel
theorem d_MD_jump_1 : decode b_MD_jump 1 = .ok (.getfield 44, 3) := by decide +kernel
theorem d_MD_jump_4 : decode b_MD_jump 4 = .ok (.iload_n 1, 1) := by decide +kernel
theorem d_MD_jump_5 : decode b_MD_jump 5 = .ok (.iaload, 1) := by decide +kernel
theorem d_MD_jump_6 : decode b_MD_jump 6 = .ok (.istore_n 3, 1) := by decide +kernel
theorem d_MD_jump_7 : decode b_MD_jump 7 = .ok (.iload_n 3, 1) := by decide +kernel
theorem d_MD_jump_8 : decode b_MD_jump 8 = .ok (.iload_n 2, 1) := by decide +kernel
theorem d_MD_jump_9 : decode b_MD_jump 9 = .ok (.if_icmp .ge 42, 3) := by decide +kernel
theorem d_MD_jump_12 : decode b_MD_jump 12 = .ok (.iload_n 3, 1) := by decide +kernel
theorem d_MD_jump_13 : decode b_MD_jump 13 = .ok (.sipush 512, 3) := by decide +kernel
theorem d_MD_jump_16 : decode b_MD_jump 16 = .ok (.if_icmp .ge 35, 3) := by decide +kernel
theorem d_MD_jump_19 : decode b_MD_jump 19 = .ok (.aload_n 0, 1) := by decide +kernel
theorem d_MD_jump_20 : decode b_MD_jump 20 = .ok (.aload_n 0, 1) := by decide +kernel
theorem d_MD_jump_21 : decode b_MD_jump 21 = .ok (.iload_n 1, 1) := by decide +kernel
theorem d_MD_jump_22 : decode b_MD_jump 22 = .ok (.iload_n 3, 1) := by decide +kernel
theorem d_MD_jump_23 : decode b_MD_jump 23 = .ok (.invokevirtual 47, 3) := by decide +kernel
theorem d_MD_jump_26 : decode b_MD_jump 26 = .ok (.ifCond .le 12, 3) := by decide +kernel
theorem d_MD_jump_29 : decode b_MD_jump 29 = .ok (.aload_n 0, 1) := by decide +kernel
theorem d_MD_jump_30 : decode b_MD_jump 30 = .ok (.getfield 83, 3) := by decide +kernel
theorem d_MD_jump_33 : decode b_MD_jump 33 = .ok (.iconst 1, 1) := by decide +kernel
theorem d_MD_jump_34 : decode b_MD_jump 34 = .ok (.iadd, 1) := by decide +kernel
theorem d_MD_jump_35 : decode b_MD_jump 35 = .ok (.goto 7, 3) := by decide +kernel
theorem d_MD_jump_38 : decode b_MD_jump 38 = .ok (.aload_n 0, 1) := by decide +kernel
theorem d_MD_jump_39 : decode b_MD_jump 39 = .ok (.getfield 83, 3) := by decide +kernel
theorem d_MD_jump_42 : decode b_MD_jump 42 = .ok (.putfield 83, 3) := by decide +kernel
theorem d_MD_jump_45 : decode b_MD_jump 45 = .ok (.iinc 3 1, 3) := by decide +kernel
theorem d_MD_jump_48 : decode b_MD_jump 48 = .ok (.goto (-41), 3) := by decide +kernel
theorem d_MD_jump_51 : decode b_MD_jump 51 = .ok (.aload_n 0, 1) := by decide +kernel
theorem d_MD_jump_52 : decode b_MD_jump 52 = .ok (.getfield 44, 3) := by decide +kernel
theorem d_MD_jump_55 : decode b_MD_jump 55 = .ok (.iload_n 1, 1) := by decide +kernel
theorem d_MD_jump_56 : decode b_MD_jump 56 = .ok (.aload_n 0, 1) := by decide +kernel
theorem d_MD_jump_57 : decode b_MD_jump 57 = .ok (.getfield 44, 3) := by decide +kernel
theorem d_MD_jump_60 : decode b_MD_jump 60 = .ok (.iload_n 1, 1) := by decide +kernel
theorem d_MD_jump_61 : decode b_MD_jump 61 = .ok (.iaload, 1) := by decide +kernel
theorem d_MD_jump_62 : decode b_MD_jump 62 = .ok (.iload_n 2, 1) := by decide +kernel
theorem d_MD_jump_63 : decode b_MD_jump 63 = .ok (.if_icmp .ge 12, 3) := by decide +kernel
theorem d_MD_jump_66 : decode b_MD_jump 66 = .ok (.aload_n 0, 1) := by decide +kernel
theorem d_MD_jump_67 : decode b_MD_jump 67 = .ok (.iload_n 1, 1) := by decide +kernel
theorem d_MD_jump_68 : decode b_MD_jump 68 = .ok (.iload_n 2, 1) := by decide +kernel
theorem d_MD_jump_69 : decode b_MD_jump 69 = .ok (.invokevirtual 86, 3) := by decide +kernel
theorem d_MD_jump_72 : decode b_MD_jump 72 = .ok (.goto 9, 3) := by decide +kernel
theorem d_MD_jump_75 : decode b_MD_jump 75 = .ok (.aload_n 0, 1) := by decide +kernel
theorem d_MD_jump_76 : decode b_MD_jump 76 = .ok (.getfield 44, 3) := by decide +kernel
theorem d_MD_jump_79 : decode b_MD_jump 79 = .ok (.iload_n 1, 1) := by decide +kernel
theorem d_MD_jump_80 : decode b_MD_jump 80 = .ok (.iaload, 1) := by decide +kernel
theorem d_MD_jump_81 : decode b_MD_jump 81 = .ok (.iastore, 1) := by decide +kernel
theorem d_MD_jump_82 : decode b_MD_jump 82 = .ok (.return_, 1) := by decide +kernel
theorem d_MD_isLine_0 : decode b_MD_isLine 0 = .ok (.aload_n 0, 1) := by decide +kernel
theorem d_MD_isLine_1 : decode b_MD_isLine 1 = .ok (.iload_n 1, 1) := by decide +kernel
theorem d_MD_isLine_2 : decode b_MD_isLine 2 = .ok (.invokevirtual 66, 3) := by decide +kernel
theorem d_MD_isLine_5 : decode b_MD_isLine 5 = .ok (.ifCond .eq 19, 3) := by decide +kernel
theorem d_MD_isLine_8 : decode b_MD_isLine 8 = .ok (.aload_n 0, 1) := by decide +kernel
theorem d_MD_isLine_9 : decode b_MD_isLine 9 = .ok (.getfield 44, 3) := by decide +kernel
theorem d_MD_isLine_12 : decode b_MD_isLine 12 = .ok (.iload_n 1, 1) := by decide +kernel
theorem d_MD_isLine_13 : decode b_MD_isLine 13 = .ok (.iaload, 1) := by decide +kernel
theorem d_MD_isLine_14 : decode b_MD_isLine 14 = .ok (.sipush 512, 3) := by decide +kernel
theorem d_MD_isLine_17 : decode b_MD_isLine 17 = .ok (.if_icmp .ge 7, 3) := by decide +kernel
theorem d_MD_isLine_20 : decode b_MD_isLine 20 = .ok (.iconst 1, 1) := by decide +kernel
theorem d_MD_isLine_21 : decode b_MD_isLine 21 = .ok (.goto 4, 3) := by decide +kernel
theorem d_MD_isLine_24 : decode b_MD_isLine 24 = .ok (.iconst 0, 1) := by decide +kernel
theorem d_MD_isLine_25 : decode b_MD_isLine 25 = .ok (.ireturn, 1) := by decide +kernel
theorem d_MD_jumpAll_0 : decode b_MD_jumpAll 0 = .ok (.iconst 0, 1) := by decide +kernel
theorem d_MD_jumpAll_1 : decode b_MD_jumpAll 1 = .ok (.istore_n 2, 1) := by decide +kernel
theorem d_MD_jumpAll_2 : decode b_MD_jumpAll 2 = .ok (.iload_n 2, 1) := by decide +kernel
theorem d_MD_jumpAll_3 : decode b_MD_jumpAll 3 = .ok (.bipush 12, 2) := by decide +kernel
theorem d_MD_jumpAll_5 : decode b_MD_jumpAll 5 = .ok (.if_icmp .ge 23, 3) := by decide +kernel
theorem d_MD_jumpAll_8 : decode b_MD_jumpAll 8 = .ok (.aload_n 0, 1) := by decide +kernel
theorem d_MD_jumpAll_9 : decode b_MD_jumpAll 9 = .ok (.iload_n 2, 1) := by decide +kernel
theorem d_MD_jumpAll_10 : decode b_MD_jumpAll 10 = .ok (.invokevirtual 89, 3) := by decide +kernel
theorem d_MD_jumpAll_13 : decode b_MD_jumpAll 13 = .ok (.ifCond .eq 9, 3) := by decide +kernel
theorem d_MD_jumpAll_16 : decode b_MD_jumpAll 16 = .ok (.aload_n 0, 1) := by decide +kernel
theorem d_MD_jumpAll_17 : decode b_MD_jumpAll 17 = .ok (.iload_n 2, 1) := by decide +kernel
theorem d_MD_jumpAll_18 : decode b_MD_jumpAll 18 = .ok (.iload_n 1, 1) := by decide +kernel
theorem d_MD_jumpAll_19 : decode b_MD_jumpAll 19 = .ok (.invokevirtual 92, 3) := by decide +kernel
theorem d_MD_jumpAll_22 : decode b_MD_jumpAll 22 = .ok (.iinc 2 1, 3) := by decide +kernel
theorem d_MD_jumpAll_25 : decode b_MD_jumpAll 25 = .ok (.goto (-23), 3) := by decide +kernel
theorem d_MD_jumpAll_28 : decode b_MD_jumpAll 28 = .ok (.return_, 1) := by decide +kernel
theorem d_MD_floor_0 : decode b_MD_floor 0 = .ok (.aload_n 0, 1) := by decide +kernel
theorem d_MD_floor_1 : decode b_MD_floor 1 = .ok (.getfield 76, 3) := by decide +kernel
theorem d_MD_floor_4 : decode b_MD_floor 4 = .ok (.aload_n 0, 1) := by decide +kernel
theorem d_MD_floor_5 : decode b_MD_floor 5 = .ok (.getfield 26, 3) := by decide +kernel
theorem d_MD_floor_8 : decode b_MD_floor 8 = .ok (.if_icmp .ge 7, 3) := by decide +kernel
theorem d_MD_floor_11 : decode b_MD_floor 11 = .ok (.iconst 0, 1) := by decide +kernel
theorem d_MD_floor_12 : decode b_MD_floor 12 = .ok (.goto 14, 3) := by decide +kernel
theorem d_MD_floor_15 : decode b_MD_floor 15 = .ok (.aload_n 0, 1) := by decide +kernel
theorem d_MD_floor_16 : decode b_MD_floor 16 = .ok (.getfield 35, 3) := by decide +kernel
theorem d_MD_floor_19 : decode b_MD_floor 19 = .ok (.aload_n 0, 1) := by decide +kernel
theorem d_MD_floor_20 : decode b_MD_floor 20 = .ok (.getfield 26, 3) := by decide +kernel
theorem d_MD_floor_23 : decode b_MD_floor 23 = .ok (.iconst 1, 1) := by decide +kernel
theorem d_MD_floor_24 : decode b_MD_floor 24 = .ok (.isub, 1) := by decide +kernel
theorem d_MD_floor_25 : decode b_MD_floor 25 = .ok (.iaload, 1) := by decide +kernel
theorem d_MD_floor_26 : decode b_MD_floor 26 = .ok (.ireturn, 1) := by decide +kernel
theorem d_MD_isAtEnd_0 : decode b_MD_isAtEnd 0 = .ok (.iconst 0, 1) := by decide +kernel
theorem d_MD_isAtEnd_1 : decode b_MD_isAtEnd 1 = .ok (.istore_n 1, 1) := by decide +kernel
theorem d_MD_isAtEnd_2 : decode b_MD_isAtEnd 2 = .ok (.iconst 0, 1) := by decide +kernel
theorem d_MD_isAtEnd_3 : decode b_MD_isAtEnd 3 = .ok (.istore_n 2, 1) := by decide +kernel
theorem d_MD_isAtEnd_4 : decode b_MD_isAtEnd 4 = .ok (.iconst 0, 1) := by decide +kernel
theorem d_MD_isAtEnd_5 : decode b_MD_isAtEnd 5 = .ok (.istore_n 3, 1) := by decide +kernel
theorem d_MD_isAtEnd_6 : decode b_MD_isAtEnd 6 = .ok (.iload_n 3, 1) := by decide +kernel
theorem d_MD_isAtEnd_7 : decode b_MD_isAtEnd 7 = .ok (.bipush 12, 2) := by decide +kernel
theorem d_MD_isAtEnd_9 : decode b_MD_isAtEnd 9 = .ok (.if_icmp .ge 55, 3) := by decide +kernel
theorem d_MD_isAtEnd_12 : decode b_MD_isAtEnd 12 = .ok (.iload_n 1, 1) := by decide +kernel
theorem d_MD_isAtEnd_13 : decode b_MD_isAtEnd 13 = .ok (.ifCond .ne 11, 3) := by decide +kernel
theorem d_MD_isAtEnd_16 : decode b_MD_isAtEnd 16 = .ok (.aload_n 0, 1) := by decide +kernel
theorem d_MD_isAtEnd_17 : decode b_MD_isAtEnd 17 = .ok (.iload_n 3, 1) := by decide +kernel
theorem d_MD_isAtEnd_18 : decode b_MD_isAtEnd 18 = .ok (.invokevirtual 89, 3) := by decide +kernel
theorem d_MD_isAtEnd_21 : decode b_MD_isAtEnd 21 = .ok (.ifCond .eq 7, 3) := by decide +kernel
theorem d_MD_isAtEnd_24 : decode b_MD_isAtEnd 24 = .ok (.iconst 1, 1) := by decide +kernel
theorem d_MD_isAtEnd_25 : decode b_MD_isAtEnd 25 = .ok (.goto 4, 3) := by decide +kernel
theorem d_MD_isAtEnd_28 : decode b_MD_isAtEnd 28 = .ok (.iconst 0, 1) := by decide +kernel
theorem d_MD_isAtEnd_29 : decode b_MD_isAtEnd 29 = .ok (.istore_n 1, 1) := by decide +kernel
theorem d_MD_isAtEnd_30 : decode b_MD_isAtEnd 30 = .ok (.iload_n 2, 1) := by decide +kernel
theorem d_MD_isAtEnd_31 : decode b_MD_isAtEnd 31 = .ok (.ifCond .ne 21, 3) := by decide +kernel
theorem d_MD_isAtEnd_34 : decode b_MD_isAtEnd 34 = .ok (.aload_n 0, 1) := by decide +kernel
theorem d_MD_isAtEnd_35 : decode b_MD_isAtEnd 35 = .ok (.getfield 20, 3) := by decide +kernel
theorem d_MD_isAtEnd_38 : decode b_MD_isAtEnd 38 = .ok (.iload_n 3, 1) := by decide +kernel
theorem d_MD_isAtEnd_39 : decode b_MD_isAtEnd 39 = .ok (.iaload, 1) := by decide +kernel
theorem d_MD_isAtEnd_40 : decode b_MD_isAtEnd 40 = .ok (.iconst 2, 1) := by decide +kernel
theorem d_MD_isAtEnd_41 : decode b_MD_isAtEnd 41 = .ok (.if_icmp .ne 15, 3) := by decide +kernel
theorem d_MD_isAtEnd_44 : decode b_MD_isAtEnd 44 = .ok (.aload_n 0, 1) := by decide +kernel
theorem d_MD_isAtEnd_45 : decode b_MD_isAtEnd 45 = .ok (.iload_n 3, 1) := by decide +kernel
theorem d_MD_isAtEnd_46 : decode b_MD_isAtEnd 46 = .ok (.invokevirtual 89, 3) := by decide +kernel
theorem d_MD_isAtEnd_49 : decode b_MD_isAtEnd 49 = .ok (.ifCond .ne 7, 3) := by decide +kernel
theorem d_MD_isAtEnd_52 : decode b_MD_isAtEnd 52 = .ok (.iconst 1, 1) := by decide +kernel
theorem d_MD_isAtEnd_53 : decode b_MD_isAtEnd 53 = .ok (.goto 4, 3) := by decide +kernel
theorem d_MD_isAtEnd_56 : decode b_MD_isAtEnd 56 = .ok (.iconst 0, 1) := by decide +kernel
theorem d_MD_isAtEnd_57 : decode b_MD_isAtEnd 57 = .ok (.istore_n 2, 1) := by decide +kernel
theorem d_MD_isAtEnd_58 : decode b_MD_isAtEnd 58 = .ok (.iinc 3 1, 3) := by decide +kernel
theorem d_MD_isAtEnd_61 : decode b_MD_isAtEnd 61 = .ok (.goto (-55), 3) := by decide +kernel
theorem d_MD_isAtEnd_64 : decode b_MD_isAtEnd 64 = .ok (.iload_n 1, 1) := by decide +kernel
theorem d_MD_isAtEnd_65 : decode b_MD_isAtEnd 65 = .ok (.ifCond .eq 7, 3) := by decide +kernel
theorem d_MD_isAtEnd_68 : decode b_MD_isAtEnd 68 = .ok (.iload_n 2, 1) := by decide +kernel
theorem d_MD_isAtEnd_69 : decode b_MD_isAtEnd 69 = .ok (.ifCond .eq 7, 3) := by decide +kernel
theorem d_MD_isAtEnd_72 : decode b_MD_isAtEnd 72 = .ok (.iconst 1, 1) := by decide +kernel
theorem d_MD_isAtEnd_73 : decode b_MD_isAtEnd 73 = .ok (.goto 4, 3) := by decide +kernel
theorem d_MD_isAtEnd_76 : decode b_MD_isAtEnd 76 = .ok (.iconst 0, 1) := by decide +kernel
theorem d_MD_isAtEnd_77 : decode b_MD_isAtEnd 77 = .ok (.ireturn, 1) := by decide +kernel
theorem d_MD_pivot_0 : decode b_MD_pivot 0 = .ok (.iconst 0, 1) := by decide +kernel
theorem d_MD_pivot_1 : decode b_MD_pivot 1 = .ok (.istore_n 2, 1) := by decide +kernel
theorem d_MD_pivot_2 : decode b_MD_pivot 2 = .ok (.iconst 0, 1) := by decide +kernel
theorem d_MD_pivot_3 : decode b_MD_pivot 3 = .ok (.istore_n 3, 1) := by decide +kernel
theorem d_MD_pivot_4 : decode b_MD_pivot 4 = .ok (.iload_n 3, 1) := by decide +kernel
theorem d_MD_pivot_5 : decode b_MD_pivot 5 = .ok (.sipush 512, 3) := by decide +kernel
theorem d_MD_pivot_8 : decode b_MD_pivot 8 = .ok (.if_icmp .ge 72, 3) := by decide +kernel
theorem d_MD_pivot_11 : decode b_MD_pivot 11 = .ok (.iconst 0, 1) := by decide +kernel
theorem d_MD_pivot_12 : decode b_MD_pivot 12 = .ok (.istore 4, 2) := by decide +kernel
theorem d_MD_pivot_14 : decode b_MD_pivot 14 = .ok (.iload 4, 2) := by decide +kernel
theorem d_MD_pivot_16 : decode b_MD_pivot 16 = .ok (.bipush 12, 2) := by decide +kernel
theorem d_MD_pivot_18 : decode b_MD_pivot 18 = .ok (.if_icmp .ge 56, 3) := by decide +kernel
theorem d_MD_pivot_21 : decode b_MD_pivot 21 = .ok (.aload_n 0, 1) := by decide +kernel
theorem d_MD_pivot_22 : decode b_MD_pivot 22 = .ok (.iload 4, 2) := by decide +kernel
theorem d_MD_pivot_24 : decode b_MD_pivot 24 = .ok (.invokevirtual 89, 3) := by decide +kernel
theorem d_MD_pivot_27 : decode b_MD_pivot 27 = .ok (.ifCond .eq 41, 3) := by decide +kernel
theorem d_MD_pivot_30 : decode b_MD_pivot 30 = .ok (.aload_n 0, 1) := by decide +kernel
theorem d_MD_pivot_31 : decode b_MD_pivot 31 = .ok (.getfield 44, 3) := by decide +kernel
theorem d_MD_pivot_34 : decode b_MD_pivot 34 = .ok (.iload 4, 2) := by decide +kernel
theorem d_MD_pivot_36 : decode b_MD_pivot 36 = .ok (.iaload, 1) := by decide +kernel
theorem d_MD_pivot_37 : decode b_MD_pivot 37 = .ok (.iload_n 3, 1) := by decide +kernel
theorem d_MD_pivot_38 : decode b_MD_pivot 38 = .ok (.if_icmp .ne 30, 3) := by decide +kernel
theorem d_MD_pivot_41 : decode b_MD_pivot 41 = .ok (.iload_n 2, 1) := by decide +kernel
theorem d_MD_pivot_42 : decode b_MD_pivot 42 = .ok (.aload_n 0, 1) := by decide +kernel
theorem d_MD_pivot_43 : decode b_MD_pivot 43 = .ok (.getfield 23, 3) := by decide +kernel
theorem d_MD_pivot_46 : decode b_MD_pivot 46 = .ok (.iload 4, 2) := by decide +kernel
theorem d_MD_pivot_48 : decode b_MD_pivot 48 = .ok (.iaload, 1) := by decide +kernel
theorem d_MD_pivot_49 : decode b_MD_pivot 49 = .ok (.aload_n 0, 1) := by decide +kernel
theorem d_MD_pivot_50 : decode b_MD_pivot 50 = .ok (.iload 4, 2) := by decide +kernel
theorem d_MD_pivot_52 : decode b_MD_pivot 52 = .ok (.iconst 0, 1) := by decide +kernel
theorem d_MD_pivot_53 : decode b_MD_pivot 53 = .ok (.bipush 120, 2) := by decide +kernel
theorem d_MD_pivot_55 : decode b_MD_pivot 55 = .ok (.invokevirtual 59, 3) := by decide +kernel
theorem d_MD_pivot_58 : decode b_MD_pivot 58 = .ok (.imul, 1) := by decide +kernel
theorem d_MD_pivot_59 : decode b_MD_pivot 59 = .ok (.iadd, 1) := by decide +kernel
theorem d_MD_pivot_60 : decode b_MD_pivot 60 = .ok (.istore_n 2, 1) := by decide +kernel
theorem d_MD_pivot_61 : decode b_MD_pivot 61 = .ok (.iload_n 2, 1) := by decide +kernel
theorem d_MD_pivot_62 : decode b_MD_pivot 62 = .ok (.iload_n 1, 1) := by decide +kernel
theorem d_MD_pivot_63 : decode b_MD_pivot 63 = .ok (.if_icmp .le 5, 3) := by decide +kernel
theorem d_MD_pivot_66 : decode b_MD_pivot 66 = .ok (.iload_n 3, 1) := by decide +kernel
theorem d_MD_pivot_67 : decode b_MD_pivot 67 = .ok (.ireturn, 1) := by decide +kernel
theorem d_MD_pivot_68 : decode b_MD_pivot 68 = .ok (.iinc 4 1, 3) := by decide +kernel
theorem d_MD_pivot_71 : decode b_MD_pivot 71 = .ok (.goto (-57), 3) := by decide +kernel
theorem d_MD_pivot_74 : decode b_MD_pivot 74 = .ok (.iinc 3 1, 3) := by decide +kernel
theorem d_MD_pivot_77 : decode b_MD_pivot 77 = .ok (.goto (-73), 3) := by decide +kernel
theorem d_MD_pivot_80 : decode b_MD_pivot 80 = .ok (.sipush 512, 3) := by decide +kernel
theorem d_MD_pivot_83 : decode b_MD_pivot 83 = .ok (.ireturn, 1) := by decide +kernel
theorem d_MD_rank_0 : decode b_MD_rank 0 = .ok (.iconst 0, 1) := by decide +kernel
theorem d_MD_rank_1 : decode b_MD_rank 1 = .ok (.istore_n 3, 1) := by decide +kernel
theorem d_MD_rank_2 : decode b_MD_rank 2 = .ok (.iconst 0, 1) := by decide +kernel
theorem d_MD_rank_3 : decode b_MD_rank 3 = .ok (.istore 4, 2) := by decide +kernel
theorem d_MD_rank_5 : decode b_MD_rank 5 = .ok (.iload 4, 2) := by decide +kernel
theorem d_MD_rank_7 : decode b_MD_rank 7 = .ok (.iload_n 2, 1) := by decide +kernel
theorem d_MD_rank_8 : decode b_MD_rank 8 = .ok (.if_icmp .ge 27, 3) := by decide +kernel
theorem d_MD_rank_11 : decode b_MD_rank 11 = .ok (.aload_n 0, 1) := by decide +kernel
theorem d_MD_rank_12 : decode b_MD_rank 12 = .ok (.iload_n 1, 1) := by decide +kernel
theorem d_MD_rank_13 : decode b_MD_rank 13 = .ok (.iload 4, 2) := by decide +kernel
theorem d_MD_rank_15 : decode b_MD_rank 15 = .ok (.invokevirtual 47, 3) := by decide +kernel
theorem d_MD_rank_18 : decode b_MD_rank 18 = .ok (.ifCond .le 9, 3) := by decide +kernel
theorem d_MD_rank_21 : decode b_MD_rank 21 = .ok (.iload_n 3, 1) := by decide +kernel
theorem d_MD_rank_22 : decode b_MD_rank 22 = .ok (.iconst 1, 1) := by decide +kernel
theorem d_MD_rank_23 : decode b_MD_rank 23 = .ok (.iadd, 1) := by decide +kernel
theorem d_MD_rank_24 : decode b_MD_rank 24 = .ok (.goto 4, 3) := by decide +kernel
theorem d_MD_rank_27 : decode b_MD_rank 27 = .ok (.iload_n 3, 1) := by decide +kernel
theorem d_MD_rank_28 : decode b_MD_rank 28 = .ok (.istore_n 3, 1) := by decide +kernel
theorem d_MD_rank_29 : decode b_MD_rank 29 = .ok (.iinc 4 1, 3) := by decide +kernel
theorem d_MD_rank_32 : decode b_MD_rank 32 = .ok (.goto (-27), 3) := by decide +kernel
theorem d_MD_rank_35 : decode b_MD_rank 35 = .ok (.iload_n 3, 1) := by decide +kernel
theorem d_MD_rank_36 : decode b_MD_rank 36 = .ok (.ireturn, 1) := by decide +kernel
theorem d_MD_lastOf_0 : decode b_MD_lastOf 0 = .ok (.iconst 0, 1) := by decide +kernel
theorem d_MD_lastOf_1 : decode b_MD_lastOf 1 = .ok (.istore_n 3, 1) := by decide +kernel
theorem d_MD_lastOf_2 : decode b_MD_lastOf 2 = .ok (.iconst 0, 1) := by decide +kernel
theorem d_MD_lastOf_3 : decode b_MD_lastOf 3 = .ok (.istore 4, 2) := by decide +kernel
theorem d_MD_lastOf_5 : decode b_MD_lastOf 5 = .ok (.iconst 0, 1) := by decide +kernel
theorem d_MD_lastOf_6 : decode b_MD_lastOf 6 = .ok (.istore 5, 2) := by decide +kernel
theorem d_MD_lastOf_8 : decode b_MD_lastOf 8 = .ok (.iload 5, 2) := by decide +kernel
theorem d_MD_lastOf_10 : decode b_MD_lastOf 10 = .ok (.sipush 512, 3) := by decide +kernel
theorem d_MD_lastOf_13 : decode b_MD_lastOf 13 = .ok (.if_icmp .ge 44, 3) := by decide +kernel
theorem d_MD_lastOf_16 : decode b_MD_lastOf 16 = .ok (.aload_n 0, 1) := by decide +kernel
theorem d_MD_lastOf_17 : decode b_MD_lastOf 17 = .ok (.iload_n 1, 1) := by decide +kernel
theorem d_MD_lastOf_18 : decode b_MD_lastOf 18 = .ok (.iload 5, 2) := by decide +kernel
theorem d_MD_lastOf_20 : decode b_MD_lastOf 20 = .ok (.invokevirtual 47, 3) := by decide +kernel
theorem d_MD_lastOf_23 : decode b_MD_lastOf 23 = .ok (.ifCond .le 28, 3) := by decide +kernel
theorem d_MD_lastOf_26 : decode b_MD_lastOf 26 = .ok (.iload 4, 2) := by decide +kernel
theorem d_MD_lastOf_28 : decode b_MD_lastOf 28 = .ok (.iload_n 2, 1) := by decide +kernel
theorem d_MD_lastOf_29 : decode b_MD_lastOf 29 = .ok (.if_icmp .lt 17, 3) := by decide +kernel
theorem d_MD_lastOf_32 : decode b_MD_lastOf 32 = .ok (.iload 4, 2) := by decide +kernel
theorem d_MD_lastOf_34 : decode b_MD_lastOf 34 = .ok (.iload_n 2, 1) := by decide +kernel
theorem d_MD_lastOf_35 : decode b_MD_lastOf 35 = .ok (.bipush 8, 2) := by decide +kernel
theorem d_MD_lastOf_37 : decode b_MD_lastOf 37 = .ok (.iadd, 1) := by decide +kernel
theorem d_MD_lastOf_38 : decode b_MD_lastOf 38 = .ok (.if_icmp .ge 8, 3) := by decide +kernel
theorem d_MD_lastOf_41 : decode b_MD_lastOf 41 = .ok (.iload 5, 2) := by decide +kernel
theorem d_MD_lastOf_43 : decode b_MD_lastOf 43 = .ok (.goto 4, 3) := by decide +kernel
theorem d_MD_lastOf_46 : decode b_MD_lastOf 46 = .ok (.iload_n 3, 1) := by decide +kernel
theorem d_MD_lastOf_47 : decode b_MD_lastOf 47 = .ok (.istore_n 3, 1) := by decide +kernel
theorem d_MD_lastOf_48 : decode b_MD_lastOf 48 = .ok (.iinc 4 1, 3) := by decide +kernel
theorem d_MD_lastOf_51 : decode b_MD_lastOf 51 = .ok (.iinc 5 1, 3) := by decide +kernel
theorem d_MD_lastOf_54 : decode b_MD_lastOf 54 = .ok (.goto (-46), 3) := by decide +kernel
theorem d_MD_lastOf_57 : decode b_MD_lastOf 57 = .ok (.iload_n 3, 1) := by decide +kernel
theorem d_MD_lastOf_58 : decode b_MD_lastOf 58 = .ok (.ireturn, 1) := by decide +kernel
