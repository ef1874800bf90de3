theorem d_BE_walk_0 : decode b_BE_walk 0 = .ok (.iload_n 1, 1) := by decide +kernel
theorem d_BE_walk_1 : decode b_BE_walk 1 = .ok (.iconst 1, 1) := by decide +kernel
theorem d_BE_walk_2 : decode b_BE_walk 2 = .ok (.sipush 10000, 3) := by decide +kernel
theorem d_BE_walk_5 : decode b_BE_walk 5 = .ok (.invokestatic 55, 3) := by decide +kernel
theorem d_BE_walk_8 : decode b_BE_walk 8 = .ok (.ifCond .ne 5, 3) := by decide +kernel
theorem d_BE_walk_11 : decode b_BE_walk 11 = .ok (.iconst (-1), 1) := by decide +kernel
theorem d_BE_walk_12 : decode b_BE_walk 12 = .ok (.ireturn, 1) := by decide +kernel
theorem d_BE_walk_13 : decode b_BE_walk 13 = .ok (.aload_n 0, 1) := by decide +kernel
theorem d_BE_walk_14 : decode b_BE_walk 14 = .ok (.getfield 37, 3) := by decide +kernel
theorem d_BE_walk_17 : decode b_BE_walk 17 = .ok (.iload_n 1, 1) := by decide +kernel
theorem d_BE_walk_18 : decode b_BE_walk 18 = .ok (.invokevirtual 116, 3) := by decide +kernel
theorem d_BE_walk_21 : decode b_BE_walk 21 = .ok (.aload_n 0, 1) := by decide +kernel
theorem d_BE_walk_22 : decode b_BE_walk 22 = .ok (.iconst 1, 1) := by decide +kernel
theorem d_BE_walk_23 : decode b_BE_walk 23 = .ok (.putfield 120, 3) := by decide +kernel
theorem d_BE_walk_26 : decode b_BE_walk 26 = .ok (.aload_n 0, 1) := by decide +kernel
theorem d_BE_walk_27 : decode b_BE_walk 27 = .ok (.iconst 0, 1) := by decide +kernel
theorem d_BE_walk_28 : decode b_BE_walk 28 = .ok (.putfield 123, 3) := by decide +kernel
theorem d_BE_walk_31 : decode b_BE_walk 31 = .ok (.aload_n 0, 1) := by decide +kernel
theorem d_BE_walk_32 : decode b_BE_walk 32 = .ok (.getfield 28, 3) := by decide +kernel
theorem d_BE_walk_35 : decode b_BE_walk 35 = .ok (.getfield 126, 3) := by decide +kernel
theorem d_BE_walk_38 : decode b_BE_walk 38 = .ok (.ireturn, 1) := by decide +kernel
theorem d_BE_keys_0 : decode b_BE_keys 0 = .ok (.aload_n 0, 1) := by decide +kernel
theorem d_BE_keys_1 : decode b_BE_keys 1 = .ok (.getfield 44, 3) := by decide +kernel
theorem d_BE_keys_4 : decode b_BE_keys 4 = .ok (.invokevirtual 127, 3) := by decide +kernel
theorem d_BE_keys_7 : decode b_BE_keys 7 = .ok (.aload_n 0, 1) := by decide +kernel
theorem d_BE_keys_8 : decode b_BE_keys 8 = .ok (.iconst 1, 1) := by decide +kernel
theorem d_BE_keys_9 : decode b_BE_keys 9 = .ok (.putfield 120, 3) := by decide +kernel
theorem d_BE_keys_12 : decode b_BE_keys 12 = .ok (.aload_n 0, 1) := by decide +kernel
theorem d_BE_keys_13 : decode b_BE_keys 13 = .ok (.iconst 1, 1) := by decide +kernel
theorem d_BE_keys_14 : decode b_BE_keys 14 = .ok (.putfield 123, 3) := by decide +kernel
theorem d_BE_keys_17 : decode b_BE_keys 17 = .ok (.aload_n 0, 1) := by decide +kernel
theorem d_BE_keys_18 : decode b_BE_keys 18 = .ok (.getfield 28, 3) := by decide +kernel
theorem d_BE_keys_21 : decode b_BE_keys 21 = .ok (.getfield 126, 3) := by decide +kernel
theorem d_BE_keys_24 : decode b_BE_keys 24 = .ok (.ireturn, 1) := by decide +kernel
theorem d_BE_anew_0 : decode b_BE_anew 0 = .ok (.iload_n 1, 1) := by decide +kernel
theorem d_BE_anew_1 : decode b_BE_anew 1 = .ok (.iconst 0, 1) := by decide +kernel
theorem d_BE_anew_2 : decode b_BE_anew 2 = .ok (.bipush 20, 2) := by decide +kernel
theorem d_BE_anew_4 : decode b_BE_anew 4 = .ok (.invokestatic 55, 3) := by decide +kernel
theorem d_BE_anew_7 : decode b_BE_anew 7 = .ok (.ifCond .eq 14, 3) := by decide +kernel
theorem d_BE_anew_10 : decode b_BE_anew 10 = .ok (.iload_n 2, 1) := by decide +kernel
theorem d_BE_anew_11 : decode b_BE_anew 11 = .ok (.bipush (-9), 2) := by decide +kernel
theorem d_BE_anew_13 : decode b_BE_anew 13 = .ok (.bipush 9, 2) := by decide +kernel
theorem d_BE_anew_15 : decode b_BE_anew 15 = .ok (.invokestatic 55, 3) := by decide +kernel
theorem d_BE_anew_18 : decode b_BE_anew 18 = .ok (.ifCond .ne 5, 3) := by decide +kernel
theorem d_BE_anew_21 : decode b_BE_anew 21 = .ok (.iconst (-1), 1) := by decide +kernel
theorem d_BE_anew_22 : decode b_BE_anew 22 = .ok (.ireturn, 1) := by decide +kernel
theorem d_BE_anew_23 : decode b_BE_anew 23 = .ok (.aload_n 0, 1) := by decide +kernel
theorem d_BE_anew_24 : decode b_BE_anew 24 = .ok (.getfield 120, 3) := by decide +kernel
theorem d_BE_anew_27 : decode b_BE_anew 27 = .ok (.ifCond .eq 19, 3) := by decide +kernel
theorem d_BE_anew_30 : decode b_BE_anew 30 = .ok (.aload_n 0, 1) := by decide +kernel
theorem d_BE_anew_31 : decode b_BE_anew 31 = .ok (.getfield 28, 3) := by decide +kernel
theorem d_BE_anew_34 : decode b_BE_anew 34 = .ok (.iload_n 1, 1) := by decide +kernel
theorem d_BE_anew_35 : decode b_BE_anew 35 = .ok (.iload_n 2, 1) := by decide +kernel
theorem d_BE_anew_36 : decode b_BE_anew 36 = .ok (.aload_n 0, 1) := by decide +kernel
theorem d_BE_anew_37 : decode b_BE_anew 37 = .ok (.getfield 123, 3) := by decide +kernel
theorem d_BE_anew_40 : decode b_BE_anew 40 = .ok (.invokevirtual 129, 3) := by decide +kernel
theorem d_BE_anew_43 : decode b_BE_anew 43 = .ok (.goto 5, 3) := by decide +kernel
theorem d_BE_anew_46 : decode b_BE_anew 46 = .ok (.bipush (-2), 2) := by decide +kernel
theorem d_BE_anew_48 : decode b_BE_anew 48 = .ok (.ireturn, 1) := by decide +kernel
theorem d_BE_answer_0 : decode b_BE_answer 0 = .ok (.iload_n 1, 1) := by decide +kernel
theorem d_BE_answer_1 : decode b_BE_answer 1 = .ok (.iconst 0, 1) := by decide +kernel
theorem d_BE_answer_2 : decode b_BE_answer 2 = .ok (.aload_n 0, 1) := by decide +kernel
theorem d_BE_answer_3 : decode b_BE_answer 3 = .ok (.getfield 28, 3) := by decide +kernel
theorem d_BE_answer_6 : decode b_BE_answer 6 = .ok (.getfield 126, 3) := by decide +kernel
theorem d_BE_answer_9 : decode b_BE_answer 9 = .ok (.iconst 1, 1) := by decide +kernel
theorem d_BE_answer_10 : decode b_BE_answer 10 = .ok (.isub, 1) := by decide +kernel
theorem d_BE_answer_11 : decode b_BE_answer 11 = .ok (.invokestatic 55, 3) := by decide +kernel
theorem d_BE_answer_14 : decode b_BE_answer 14 = .ok (.ifCond .ne 5, 3) := by decide +kernel
theorem d_BE_answer_17 : decode b_BE_answer 17 = .ok (.iconst (-1), 1) := by decide +kernel
theorem d_BE_answer_18 : decode b_BE_answer 18 = .ok (.ireturn, 1) := by decide +kernel
theorem d_BE_answer_19 : decode b_BE_answer 19 = .ok (.iload_n 2, 1) := by decide +kernel
theorem d_BE_answer_20 : decode b_BE_answer 20 = .ok (.tableswitch 72 0 3 #[32, 42, 52, 62], 32) := by decide +kernel
theorem d_BE_answer_52 : decode b_BE_answer 52 = .ok (.aload_n 0, 1) := by decide +kernel
theorem d_BE_answer_53 : decode b_BE_answer 53 = .ok (.getfield 28, 3) := by decide +kernel
theorem d_BE_answer_56 : decode b_BE_answer 56 = .ok (.getfield 133, 3) := by decide +kernel
theorem d_BE_answer_59 : decode b_BE_answer 59 = .ok (.iload_n 1, 1) := by decide +kernel
theorem d_BE_answer_60 : decode b_BE_answer 60 = .ok (.iaload, 1) := by decide +kernel
theorem d_BE_answer_61 : decode b_BE_answer 61 = .ok (.ireturn, 1) := by decide +kernel
theorem d_BE_answer_62 : decode b_BE_answer 62 = .ok (.aload_n 0, 1) := by decide +kernel
theorem d_BE_answer_63 : decode b_BE_answer 63 = .ok (.getfield 28, 3) := by decide +kernel
theorem d_BE_answer_66 : decode b_BE_answer 66 = .ok (.getfield 136, 3) := by decide +kernel
theorem d_BE_answer_69 : decode b_BE_answer 69 = .ok (.iload_n 1, 1) := by decide +kernel
theorem d_BE_answer_70 : decode b_BE_answer 70 = .ok (.iaload, 1) := by decide +kernel
theorem d_BE_answer_71 : decode b_BE_answer 71 = .ok (.ireturn, 1) := by decide +kernel
theorem d_BE_answer_72 : decode b_BE_answer 72 = .ok (.aload_n 0, 1) := by decide +kernel
theorem d_BE_answer_73 : decode b_BE_answer 73 = .ok (.getfield 28, 3) := by decide +kernel
theorem d_BE_answer_76 : decode b_BE_answer 76 = .ok (.getfield 139, 3) := by decide +kernel
theorem d_BE_answer_79 : decode b_BE_answer 79 = .ok (.iload_n 1, 1) := by decide +kernel
theorem d_BE_answer_80 : decode b_BE_answer 80 = .ok (.iaload, 1) := by decide +kernel
theorem d_BE_answer_81 : decode b_BE_answer 81 = .ok (.ireturn, 1) := by decide +kernel
theorem d_BE_answer_82 : decode b_BE_answer 82 = .ok (.aload_n 0, 1) := by decide +kernel
theorem d_BE_answer_83 : decode b_BE_answer 83 = .ok (.getfield 28, 3) := by decide +kernel
theorem d_BE_answer_86 : decode b_BE_answer 86 = .ok (.getfield 142, 3) := by decide +kernel
theorem d_BE_answer_89 : decode b_BE_answer 89 = .ok (.iload_n 1, 1) := by decide +kernel
theorem d_BE_answer_90 : decode b_BE_answer 90 = .ok (.iaload, 1) := by decide +kernel
theorem d_BE_answer_91 : decode b_BE_answer 91 = .ok (.ireturn, 1) := by decide +kernel
theorem d_BE_answer_92 : decode b_BE_answer 92 = .ok (.iconst (-1), 1) := by decide +kernel
theorem d_BE_answer_93 : decode b_BE_answer 93 = .ok (.ireturn, 1) := by decide +kernel
theorem d_BE_told_0 : decode b_BE_told 0 = .ok (.iload_n 1, 1) := by decide +kernel
theorem d_BE_told_1 : decode b_BE_told 1 = .ok (.tableswitch 123 0 8 #[51, 59, 67, 75, 83, 91, 99, 107, 115], 51) := by decide +kernel
theorem d_BE_told_52 : decode b_BE_told 52 = .ok (.aload_n 0, 1) := by decide +kernel
theorem d_BE_told_53 : decode b_BE_told 53 = .ok (.getfield 37, 3) := by decide +kernel
theorem d_BE_told_56 : decode b_BE_told 56 = .ok (.getfield 145, 3) := by decide +kernel
theorem d_BE_told_59 : decode b_BE_told 59 = .ok (.ireturn, 1) := by decide +kernel
theorem d_BE_told_60 : decode b_BE_told 60 = .ok (.aload_n 0, 1) := by decide +kernel
theorem d_BE_told_61 : decode b_BE_told 61 = .ok (.getfield 37, 3) := by decide +kernel
theorem d_BE_told_64 : decode b_BE_told 64 = .ok (.getfield 148, 3) := by decide +kernel
theorem d_BE_told_67 : decode b_BE_told 67 = .ok (.ireturn, 1) := by decide +kernel
theorem d_BE_told_68 : decode b_BE_told 68 = .ok (.aload_n 0, 1) := by decide +kernel
theorem d_BE_told_69 : decode b_BE_told 69 = .ok (.getfield 37, 3) := by decide +kernel
theorem d_BE_told_72 : decode b_BE_told 72 = .ok (.getfield 151, 3) := by decide +kernel
theorem d_BE_told_75 : decode b_BE_told 75 = .ok (.ireturn, 1) := by decide +kernel
theorem d_BE_told_76 : decode b_BE_told 76 = .ok (.aload_n 0, 1) := by decide +kernel
theorem d_BE_told_77 : decode b_BE_told 77 = .ok (.getfield 37, 3) := by decide +kernel
theorem d_BE_told_80 : decode b_BE_told 80 = .ok (.getfield 154, 3) := by decide +kernel
theorem d_BE_told_83 : decode b_BE_told 83 = .ok (.ireturn, 1) := by decide +kernel
theorem d_BE_told_84 : decode b_BE_told 84 = .ok (.aload_n 0, 1) := by decide +kernel
theorem d_BE_told_85 : decode b_BE_told 85 = .ok (.getfield 37, 3) := by decide +kernel
theorem d_BE_told_88 : decode b_BE_told 88 = .ok (.getfield 157, 3) := by decide +kernel
theorem d_BE_told_91 : decode b_BE_told 91 = .ok (.ireturn, 1) := by decide +kernel
theorem d_BE_told_92 : decode b_BE_told 92 = .ok (.aload_n 0, 1) := by decide +kernel
theorem d_BE_told_93 : decode b_BE_told 93 = .ok (.getfield 37, 3) := by decide +kernel
theorem d_BE_told_96 : decode b_BE_told 96 = .ok (.getfield 160, 3) := by decide +kernel
theorem d_BE_told_99 : decode b_BE_told 99 = .ok (.ireturn, 1) := by decide +kernel
theorem d_BE_told_100 : decode b_BE_told 100 = .ok (.aload_n 0, 1) := by decide +kernel
theorem d_BE_told_101 : decode b_BE_told 101 = .ok (.getfield 37, 3) := by decide +kernel
theorem d_BE_told_104 : decode b_BE_told 104 = .ok (.getfield 163, 3) := by decide +kernel
theorem d_BE_told_107 : decode b_BE_told 107 = .ok (.ireturn, 1) := by decide +kernel
theorem d_BE_told_108 : decode b_BE_told 108 = .ok (.aload_n 0, 1) := by decide +kernel
theorem d_BE_told_109 : decode b_BE_told 109 = .ok (.getfield 44, 3) := by decide +kernel
theorem d_BE_told_112 : decode b_BE_told 112 = .ok (.getfield 166, 3) := by decide +kernel
theorem d_BE_told_115 : decode b_BE_told 115 = .ok (.ireturn, 1) := by decide +kernel
theorem d_BE_told_116 : decode b_BE_told 116 = .ok (.aload_n 0, 1) := by decide +kernel
theorem d_BE_told_117 : decode b_BE_told 117 = .ok (.getfield 44, 3) := by decide +kernel
theorem d_BE_told_120 : decode b_BE_told 120 = .ok (.getfield 169, 3) := by decide +kernel
theorem d_BE_told_123 : decode b_BE_told 123 = .ok (.ireturn, 1) := by decide +kernel
theorem d_BE_told_124 : decode b_BE_told 124 = .ok (.iconst (-1), 1) := by decide +kernel
theorem d_BE_told_125 : decode b_BE_told 125 = .ok (.ireturn, 1) := by decide +kernel
theorem d_BE_count_0 : decode b_BE_count 0 = .ok (.iload_n 1, 1) := by decide +kernel
theorem d_BE_count_1 : decode b_BE_count 1 = .ok (.invokestatic 48, 3) := by decide +kernel
theorem d_BE_count_4 : decode b_BE_count 4 = .ok (.ifCond .eq 16, 3) := by decide +kernel
theorem d_BE_count_7 : decode b_BE_count 7 = .ok (.aload_n 0, 1) := by decide +kernel
theorem d_BE_count_8 : decode b_BE_count 8 = .ok (.getfield 20, 3) := by decide +kernel
theorem d_BE_count_11 : decode b_BE_count 11 = .ok (.getfield 59, 3) := by decide +kernel
theorem d_BE_count_14 : decode b_BE_count 14 = .ok (.iload_n 1, 1) := by decide +kernel
theorem d_BE_count_15 : decode b_BE_count 15 = .ok (.aaload, 1) := by decide +kernel
theorem d_BE_count_16 : decode b_BE_count 16 = .ok (.getfield 69, 3) := by decide +kernel
theorem d_BE_count_19 : decode b_BE_count 19 = .ok (.ireturn, 1) := by decide +kernel
theorem d_BE_count_20 : decode b_BE_count 20 = .ok (.iload_n 1, 1) := by decide +kernel
theorem d_BE_count_21 : decode b_BE_count 21 = .ok (.tableswitch 99 12 17 #[39, 57, 66, 75, 83, 91], 39) := by decide +kernel
theorem d_BE_count_60 : decode b_BE_count 60 = .ok (.aload_n 0, 1) := by decide +kernel
theorem d_BE_count_61 : decode b_BE_count 61 = .ok (.getfield 24, 3) := by decide +kernel
theorem d_BE_count_64 : decode b_BE_count 64 = .ok (.iconst 1, 1) := by decide +kernel
theorem d_BE_count_65 : decode b_BE_count 65 = .ok (.invokevirtual 172, 3) := by decide +kernel
theorem d_BE_count_68 : decode b_BE_count 68 = .ok (.aload_n 0, 1) := by decide +kernel
theorem d_BE_count_69 : decode b_BE_count 69 = .ok (.getfield 24, 3) := by decide +kernel
theorem d_BE_count_72 : decode b_BE_count 72 = .ok (.iconst 2, 1) := by decide +kernel
theorem d_BE_count_73 : decode b_BE_count 73 = .ok (.invokevirtual 172, 3) := by decide +kernel
theorem d_BE_count_76 : decode b_BE_count 76 = .ok (.iadd, 1) := by decide +kernel
theorem d_BE_count_77 : decode b_BE_count 77 = .ok (.ireturn, 1) := by decide +kernel
theorem d_BE_count_78 : decode b_BE_count 78 = .ok (.aload_n 0, 1) := by decide +kernel
theorem d_BE_count_79 : decode b_BE_count 79 = .ok (.getfield 24, 3) := by decide +kernel
theorem d_BE_count_82 : decode b_BE_count 82 = .ok (.iconst 2, 1) := by decide +kernel
theorem d_BE_count_83 : decode b_BE_count 83 = .ok (.invokevirtual 172, 3) := by decide +kernel
theorem d_BE_count_86 : decode b_BE_count 86 = .ok (.ireturn, 1) := by decide +kernel
theorem d_BE_count_87 : decode b_BE_count 87 = .ok (.aload_n 0, 1) := by decide +kernel
theorem d_BE_count_88 : decode b_BE_count 88 = .ok (.getfield 24, 3) := by decide +kernel
theorem d_BE_count_91 : decode b_BE_count 91 = .ok (.iconst 3, 1) := by decide +kernel
theorem d_BE_count_92 : decode b_BE_count 92 = .ok (.invokevirtual 172, 3) := by decide +kernel
theorem d_BE_count_95 : decode b_BE_count 95 = .ok (.ireturn, 1) := by decide +kernel
theorem d_BE_count_96 : decode b_BE_count 96 = .ok (.aload_n 0, 1) := by decide +kernel
theorem d_BE_count_97 : decode b_BE_count 97 = .ok (.getfield 24, 3) := by decide +kernel
theorem d_BE_count_100 : decode b_BE_count 100 = .ok (.getfield 97, 3) := by decide +kernel
theorem d_BE_count_103 : decode b_BE_count 103 = .ok (.ireturn, 1) := by decide +kernel
theorem d_BE_count_104 : decode b_BE_count 104 = .ok (.aload_n 0, 1) := by decide +kernel
theorem d_BE_count_105 : decode b_BE_count 105 = .ok (.getfield 28, 3) := by decide +kernel
theorem d_BE_count_108 : decode b_BE_count 108 = .ok (.getfield 126, 3) := by decide +kernel
theorem d_BE_count_111 : decode b_BE_count 111 = .ok (.ireturn, 1) := by decide +kernel
theorem d_BE_count_112 : decode b_BE_count 112 = .ok (.aload_n 0, 1) := by decide +kernel
theorem d_BE_count_113 : decode b_BE_count 113 = .ok (.getfield 20, 3) := by decide +kernel
theorem d_BE_count_116 : decode b_BE_count 116 = .ok (.invokevirtual 175, 3) := by decide +kernel
theorem d_BE_count_119 : decode b_BE_count 119 = .ok (.ireturn, 1) := by decide +kernel
theorem d_BE_count_120 : decode b_BE_count 120 = .ok (.iconst (-1), 1) := by decide +kernel
theorem d_BE_count_121 : decode b_BE_count 121 = .ok (.ireturn, 1) := by decide +kernel
theorem d_BE_isList_0 : decode b_BE_isList 0 = .ok (.iload_n 0, 1) := by decide +kernel
theorem d_BE_isList_1 : decode b_BE_isList 1 = .ok (.iconst 0, 1) := by decide +kernel
theorem d_BE_isList_2 : decode b_BE_isList 2 = .ok (.bipush 11, 2) := by decide +kernel
theorem d_BE_isList_4 : decode b_BE_isList 4 = .ok (.invokestatic 55, 3) := by decide +kernel
theorem d_BE_isList_7 : decode b_BE_isList 7 = .ok (.ireturn, 1) := by decide +kernel
theorem d_BE_isObject_0 : decode b_BE_isObject 0 = .ok (.iload_n 0, 1) := by decide +kernel
theorem d_BE_isObject_1 : decode b_BE_isObject 1 = .ok (.iconst 0, 1) := by decide +kernel
theorem d_BE_isObject_2 : decode b_BE_isObject 2 = .ok (.sipush 511, 3) := by decide +kernel
theorem d_BE_isObject_5 : decode b_BE_isObject 5 = .ok (.invokestatic 55, 3) := by decide +kernel
theorem d_BE_isObject_8 : decode b_BE_isObject 8 = .ok (.ireturn, 1) := by decide +kernel
theorem d_BE_isWithin_0 : decode b_BE_isWithin 0 = .ok (.iload_n 0, 1) := by decide +kernel
theorem d_BE_isWithin_1 : decode b_BE_isWithin 1 = .ok (.iload_n 1, 1) := by decide +kernel
theorem d_BE_isWithin_2 : decode b_BE_isWithin 2 = .ok (.if_icmp .lt 12, 3) := by decide +kernel
theorem d_BE_isWithin_5 : decode b_BE_isWithin 5 = .ok (.iload_n 0, 1) := by decide +kernel
theorem d_BE_isWithin_6 : decode b_BE_isWithin 6 = .ok (.iload_n 2, 1) := by decide +kernel
theorem d_BE_isWithin_7 : decode b_BE_isWithin 7 = .ok (.if_icmp .gt 7, 3) := by decide +kernel
theorem d_BE_isWithin_10 : decode b_BE_isWithin 10 = .ok (.iconst 1, 1) := by decide +kernel
theorem d_BE_isWithin_11 : decode b_BE_isWithin 11 = .ok (.goto 4, 3) := by decide +kernel
theorem d_BE_isWithin_14 : decode b_BE_isWithin 14 = .ok (.iconst 0, 1) := by decide +kernel
theorem d_BE_isWithin_15 : decode b_BE_isWithin 15 = .ok (.ireturn, 1) := by decide +kernel
theorem d_MD_in_0 : decode b_MD_in 0 = .ok (.iload_n 0, 1) := by decide +kernel
theorem d_MD_in_1 : decode b_MD_in 1 = .ok (.iload_n 1, 1) := by decide +kernel
theorem d_MD_in_2 : decode b_MD_in 2 = .ok (.if_icmp .lt 12, 3) := by decide +kernel
theorem d_MD_in_5 : decode b_MD_in 5 = .ok (.iload_n 0, 1) := by decide +kernel
theorem d_MD_in_6 : decode b_MD_in 6 = .ok (.iload_n 2, 1) := by decide +kernel
theorem d_MD_in_7 : decode b_MD_in 7 = .ok (.if_icmp .gt 7, 3) := by decide +kernel
theorem d_MD_in_10 : decode b_MD_in 10 = .ok (.iconst 1, 1) := by decide +kernel
theorem d_MD_in_11 : decode b_MD_in 11 = .ok (.goto 4, 3) := by decide +kernel
theorem d_MD_in_14 : decode b_MD_in 14 = .ok (.iconst 0, 1) := by decide +kernel
theorem d_MD_in_15 : decode b_MD_in 15 = .ok (.ireturn, 1) := by decide +kernel
theorem d_MD_init_0 : decode b_MD_init 0 = .ok (.aload_n 0, 1) := by decide +kernel
theorem d_MD_init_1 : decode b_MD_init 1 = .ok (.invokespecial 7, 3) := by decide +kernel
theorem d_MD_init_4 : decode b_MD_init 4 = .ok (.aload_n 0, 1) := by decide +kernel
theorem d_MD_init_5 : decode b_MD_init 5 = .ok (.sipush 6144, 3) := by decide +kernel
theorem d_MD_init_8 : decode b_MD_init 8 = .ok (.newarray .int, 2) := by decide +kernel
theorem d_MD_init_10 : decode b_MD_init 10 = .ok (.putfield 13, 3) := by decide +kernel
theorem d_MD_init_13 : decode b_MD_init 13 = .ok (.aload_n 0, 1) := by decide +kernel
theorem d_MD_init_14 : decode b_MD_init 14 = .ok (.sipush 512, 3) := by decide +kernel
theorem d_MD_init_17 : decode b_MD_init 17 = .ok (.newarray .int, 2) := by decide +kernel
theorem d_MD_init_19 : decode b_MD_init 19 = .ok (.putfield 17, 3) := by decide +kernel
theorem d_MD_init_22 : decode b_MD_init 22 = .ok (.aload_n 0, 1) := by decide +kernel
theorem d_MD_init_23 : decode b_MD_init 23 = .ok (.bipush 12, 2) := by decide +kernel
theorem d_MD_init_25 : decode b_MD_init 25 = .ok (.newarray .int, 2) := by decide +kernel
theorem d_MD_init_27 : decode b_MD_init 27 = .ok (.putfield 20, 3) := by decide +kernel
theorem d_MD_init_30 : decode b_MD_init 30 = .ok (.aload_n 0, 1) := by decide +kernel
theorem d_MD_init_31 : decode b_MD_init 31 = .ok (.bipush 12, 2) := by decide +kernel
theorem d_MD_init_33 : decode b_MD_init 33 = .ok (.newarray .int, 2) := by decide +kernel
theorem d_MD_init_35 : decode b_MD_init 35 = .ok (.putfield 23, 3) := by decide +kernel
theorem d_MD_init_38 : decode b_MD_init 38 = .ok (.aload_n 0, 1) := by decide +kernel
theorem d_MD_init_39 : decode b_MD_init 39 = .ok (.bipush 10, 2) := by decide +kernel
theorem d_MD_init_41 : decode b_MD_init 41 = .ok (.putfield 26, 3) := by decide +kernel
theorem d_MD_init_44 : decode b_MD_init 44 = .ok (.aload_n 0, 1) := by decide +kernel
theorem d_MD_init_45 : decode b_MD_init 45 = .ok (.iconst (-1), 1) := by decide +kernel
theorem d_MD_init_46 : decode b_MD_init 46 = .ok (.putfield 29, 3) := by decide +kernel
theorem d_MD_init_49 : decode b_MD_init 49 = .ok (.aload_n 0, 1) := by decide +kernel
theorem d_MD_init_50 : decode b_MD_init 50 = .ok (.bipush 21, 2) := by decide +kernel
theorem d_MD_init_52 : decode b_MD_init 52 = .ok (.newarray .int, 2) := by decide +kernel
theorem d_MD_init_54 : decode b_MD_init 54 = .ok (.putfield 32, 3) := by decide +kernel
theorem d_MD_init_57 : decode b_MD_init 57 = .ok (.aload_n 0, 1) := by decide +kernel
theorem d_MD_init_58 : decode b_MD_init 58 = .ok (.bipush 21, 2) := by decide +kernel
theorem d_MD_init_60 : decode b_MD_init 60 = .ok (.newarray .int, 2) := by decide +kernel
theorem d_MD_init_62 : decode b_MD_init 62 = .ok (.putfield 35, 3) := by decide +kernel
theorem d_MD_init_65 : decode b_MD_init 65 = .ok (.aload_n 0, 1) := by decide +kernel
theorem d_MD_init_66 : decode b_MD_init 66 = .ok (.bipush 21, 2) := by decide +kernel
theorem d_MD_init_68 : decode b_MD_init 68 = .ok (.newarray .int, 2) := by decide +kernel
theorem d_MD_init_70 : decode b_MD_init 70 = .ok (.putfield 38, 3) := by decide +kernel
theorem d_MD_init_73 : decode b_MD_init 73 = .ok (.aload_n 0, 1) := by decide +kernel
theorem d_MD_init_74 : decode b_MD_init 74 = .ok (.bipush 21, 2) := by decide +kernel
theorem d_MD_init_76 : decode b_MD_init 76 = .ok (.newarray .int, 2) := by decide +kernel
theorem d_MD_init_78 : decode b_MD_init 78 = .ok (.putfield 41, 3) := by decide +kernel
theorem d_MD_init_81 : decode b_MD_init 81 = .ok (.aload_n 0, 1) := by decide +kernel
theorem d_MD_init_82 : decode b_MD_init 82 = .ok (.bipush 12, 2) := by decide +kernel
theorem d_MD_init_84 : decode b_MD_init 84 = .ok (.newarray .int, 2) := by decide +kernel
theorem d_MD_init_86 : decode b_MD_init 86 = .ok (.putfield 44, 3) := by decide +kernel
theorem d_MD_init_89 : decode b_MD_init 89 = .ok (.aload_n 0, 1) := by decide +kernel
theorem d_MD_init_90 : decode b_MD_init 90 = .ok (.iconst 0, 1) := by decide +kernel
theorem d_MD_init_91 : decode b_MD_init 91 = .ok (.putfield 1, 3) := by decide +kernel
theorem d_MD_init_94 : decode b_MD_init 94 = .ok (.iconst 0, 1) := by decide +kernel
theorem d_MD_init_95 : decode b_MD_init 95 = .ok (.istore_n 1, 1) := by decide +kernel
theorem d_MD_init_96 : decode b_MD_init 96 = .ok (.iload_n 1, 1) := by decide +kernel
theorem d_MD_init_97 : decode b_MD_init 97 = .ok (.bipush 12, 2) := by decide +kernel
theorem d_MD_init_99 : decode b_MD_init 99 = .ok (.if_icmp .ge 16, 3) := by decide +kernel
theorem d_MD_init_102 : decode b_MD_init 102 = .ok (.aload_n 0, 1) := by decide +kernel
theorem d_MD_init_103 : decode b_MD_init 103 = .ok (.getfield 23, 3) := by decide +kernel
theorem d_MD_init_106 : decode b_MD_init 106 = .ok (.iload_n 1, 1) := by decide +kernel
theorem d_MD_init_107 : decode b_MD_init 107 = .ok (.iconst 1, 1) := by decide +kernel
theorem d_MD_init_108 : decode b_MD_init 108 = .ok (.iastore, 1) := by decide +kernel
theorem d_MD_init_109 : decode b_MD_init 109 = .ok (.iinc 1 1, 3) := by decide +kernel
theorem d_MD_init_112 : decode b_MD_init 112 = .ok (.goto (-16), 3) := by decide +kernel
theorem d_MD_init_115 : decode b_MD_init 115 = .ok (.return_, 1) := by decide +kernel
theorem d_MD_at_0 : decode b_MD_at 0 = .ok (.aload_n 0, 1) := by decide +kernel
theorem d_MD_at_1 : decode b_MD_at 1 = .ok (.getfield 13, 3) := by decide +kernel
theorem d_MD_at_4 : decode b_MD_at 4 = .ok (.sipush 512, 3) := by decide +kernel
theorem d_MD_at_7 : decode b_MD_at 7 = .ok (.iload_n 1, 1) := by decide +kernel
theorem d_MD_at_8 : decode b_MD_at 8 = .ok (.imul, 1) := by decide +kernel
theorem d_MD_at_9 : decode b_MD_at 9 = .ok (.iload_n 2, 1) := by decide +kernel
theorem d_MD_at_10 : decode b_MD_at 10 = .ok (.iadd, 1) := by decide +kernel
theorem d_MD_at_11 : decode b_MD_at 11 = .ok (.iaload, 1) := by decide +kernel
theorem d_MD_at_12 : decode b_MD_at 12 = .ok (.ireturn, 1) := by decide +kernel
theorem d_MD_size_0 : decode b_MD_size 0 = .ok (.iconst 0, 1) := by decide +kernel
theorem d_MD_size_1 : decode b_MD_size 1 = .ok (.istore_n 2, 1) := by decide +kernel
theorem d_MD_size_2 : decode b_MD_size 2 = .ok (.iconst 0, 1) := by decide +kernel
theorem d_MD_size_3 : decode b_MD_size 3 = .ok (.istore_n 3, 1) := by decide +kernel
theorem d_MD_size_4 : decode b_MD_size 4 = .ok (.iload_n 3, 1) := by decide +kernel
theorem d_MD_size_5 : decode b_MD_size 5 = .ok (.sipush 512, 3) := by decide +kernel
theorem d_MD_size_8 : decode b_MD_size 8 = .ok (.if_icmp .ge 26, 3) := by decide +kernel
theorem d_MD_size_11 : decode b_MD_size 11 = .ok (.aload_n 0, 1) := by decide +kernel
theorem d_MD_size_12 : decode b_MD_size 12 = .ok (.iload_n 1, 1) := by decide +kernel
theorem d_MD_size_13 : decode b_MD_size 13 = .ok (.iload_n 3, 1) := by decide +kernel
theorem d_MD_size_14 : decode b_MD_size 14 = .ok (.invokevirtual 47, 3) := by decide +kernel
theorem d_MD_size_17 : decode b_MD_size 17 = .ok (.ifCond .le 9, 3) := by decide +kernel
theorem d_MD_size_20 : decode b_MD_size 20 = .ok (.iload_n 2, 1) := by decide +kernel
theorem d_MD_size_21 : decode b_MD_size 21 = .ok (.iconst 1, 1) := by decide +kernel
theorem d_MD_size_22 : decode b_MD_size 22 = .ok (.iadd, 1) := by decide +kernel
theorem d_MD_size_23 : decode b_MD_size 23 = .ok (.goto 4, 3) := by decide +kernel
theorem d_MD_size_26 : decode b_MD_size 26 = .ok (.iload_n 2, 1) := by decide +kernel
theorem d_MD_size_27 : decode b_MD_size 27 = .ok (.istore_n 2, 1) := by decide +kernel
theorem d_MD_size_28 : decode b_MD_size 28 = .ok (.iinc 3 1, 3) := by decide +kernel
theorem d_MD_size_31 : decode b_MD_size 31 = .ok (.goto (-27), 3) := by decide +kernel
theorem d_MD_size_34 : decode b_MD_size 34 = .ok (.iload_n 2, 1) := by decide +kernel
theorem d_MD_size_35 : decode b_MD_size 35 = .ok (.ireturn, 1) := by decide +kernel
theorem d_MD_entry_0 : decode b_MD_entry 0 = .ok (.aload_n 0, 1) := by decide +kernel
theorem d_MD_entry_1 : decode b_MD_entry 1 = .ok (.iconst 0, 1) := by decide +kernel
theorem d_MD_entry_2 : decode b_MD_entry 2 = .ok (.putfield 1, 3) := by decide +kernel
theorem d_MD_entry_5 : decode b_MD_entry 5 = .ok (.iload_n 1, 1) := by decide +kernel
theorem d_MD_entry_6 : decode b_MD_entry 6 = .ok (.iconst 0, 1) := by decide +kernel
theorem d_MD_entry_7 : decode b_MD_entry 7 = .ok (.bipush 11, 2) := by decide +kernel
theorem d_MD_entry_9 : decode b_MD_entry 9 = .ok (.invokestatic 51, 3) := by decide +kernel
theorem d_MD_entry_12 : decode b_MD_entry 12 = .ok (.ifCond .eq 24, 3) := by decide +kernel
theorem d_MD_entry_15 : decode b_MD_entry 15 = .ok (.iload_n 2, 1) := by decide +kernel
theorem d_MD_entry_16 : decode b_MD_entry 16 = .ok (.iconst 0, 1) := by decide +kernel
theorem d_MD_entry_17 : decode b_MD_entry 17 = .ok (.sipush 511, 3) := by decide +kernel
theorem d_MD_entry_20 : decode b_MD_entry 20 = .ok (.invokestatic 51, 3) := by decide +kernel
theorem d_MD_entry_23 : decode b_MD_entry 23 = .ok (.ifCond .eq 13, 3) := by decide +kernel
theorem d_MD_entry_26 : decode b_MD_entry 26 = .ok (.iload_n 3, 1) := by decide +kernel
theorem d_MD_entry_27 : decode b_MD_entry 27 = .ok (.iconst 1, 1) := by decide +kernel
theorem d_MD_entry_28 : decode b_MD_entry 28 = .ok (.bipush 100, 2) := by decide +kernel
theorem d_MD_entry_30 : decode b_MD_entry 30 = .ok (.invokestatic 51, 3) := by decide +kernel
theorem d_MD_entry_33 : decode b_MD_entry 33 = .ok (.ifCond .ne 5, 3) := by decide +kernel
theorem d_MD_entry_36 : decode b_MD_entry 36 = .ok (.iconst (-1), 1) := by decide +kernel
theorem d_MD_entry_37 : decode b_MD_entry 37 = .ok (.ireturn, 1) := by decide +kernel
theorem d_MD_entry_38 : decode b_MD_entry 38 = .ok (.aload_n 0, 1) := by decide +kernel
theorem d_MD_entry_39 : decode b_MD_entry 39 = .ok (.iload_n 1, 1) := by decide +kernel
theorem d_MD_entry_40 : decode b_MD_entry 40 = .ok (.iload_n 2, 1) := by decide +kernel
theorem d_MD_entry_41 : decode b_MD_entry 41 = .ok (.invokevirtual 47, 3) := by decide +kernel
theorem d_MD_entry_44 : decode b_MD_entry 44 = .ok (.ifCond .ne 16, 3) := by decide +kernel
theorem d_MD_entry_47 : decode b_MD_entry 47 = .ok (.aload_n 0, 1) := by decide +kernel
theorem d_MD_entry_48 : decode b_MD_entry 48 = .ok (.iload_n 1, 1) := by decide +kernel
theorem d_MD_entry_49 : decode b_MD_entry 49 = .ok (.invokevirtual 55, 3) := by decide +kernel
theorem d_MD_entry_52 : decode b_MD_entry 52 = .ok (.bipush 120, 2) := by decide +kernel
theorem d_MD_entry_54 : decode b_MD_entry 54 = .ok (.if_icmp .ne 6, 3) := by decide +kernel
theorem d_MD_entry_57 : decode b_MD_entry 57 = .ok (.bipush (-3), 2) := by decide +kernel
theorem d_MD_entry_59 : decode b_MD_entry 59 = .ok (.ireturn, 1) := by decide +kernel
theorem d_MD_entry_60 : decode b_MD_entry 60 = .ok (.aload_n 0, 1) := by decide +kernel
theorem d_MD_entry_61 : decode b_MD_entry 61 = .ok (.getfield 13, 3) := by decide +kernel
theorem d_MD_entry_64 : decode b_MD_entry 64 = .ok (.sipush 512, 3) := by decide +kernel
theorem d_MD_entry_67 : decode b_MD_entry 67 = .ok (.iload_n 1, 1) := by decide +kernel
theorem d_MD_entry_68 : decode b_MD_entry 68 = .ok (.imul, 1) := by decide +kernel
theorem d_MD_entry_69 : decode b_MD_entry 69 = .ok (.iload_n 2, 1) := by decide +kernel
theorem d_MD_entry_70 : decode b_MD_entry 70 = .ok (.iadd, 1) := by decide +kernel
theorem d_MD_entry_71 : decode b_MD_entry 71 = .ok (.iload_n 3, 1) := by decide +kernel
theorem d_MD_entry_72 : decode b_MD_entry 72 = .ok (.iastore, 1) := by decide +kernel
theorem d_MD_entry_73 : decode b_MD_entry 73 = .ok (.aload_n 0, 1) := by decide +kernel
theorem d_MD_entry_74 : decode b_MD_entry 74 = .ok (.iload_n 1, 1) := by decide +kernel
theorem d_MD_entry_75 : decode b_MD_entry 75 = .ok (.invokevirtual 55, 3) := by decide +kernel
theorem d_MD_entry_78 : decode b_MD_entry 78 = .ok (.ireturn, 1) := by decide +kernel
theorem d_MD_lose_0 : decode b_MD_lose 0 = .ok (.aload_n 0, 1) := by decide +kernel
theorem d_MD_lose_1 : decode b_MD_lose 1 = .ok (.iconst 0, 1) := by decide +kernel
theorem d_MD_lose_2 : decode b_MD_lose 2 = .ok (.putfield 1, 3) := by decide +kernel
theorem d_MD_lose_5 : decode b_MD_lose 5 = .ok (.iload_n 1, 1) := by decide +kernel
theorem d_MD_lose_6 : decode b_MD_lose 6 = .ok (.iconst 0, 1) := by decide +kernel
theorem d_MD_lose_7 : decode b_MD_lose 7 = .ok (.bipush 11, 2) := by decide +kernel
theorem d_MD_lose_9 : decode b_MD_lose 9 = .ok (.invokestatic 51, 3) := by decide +kernel
theorem d_MD_lose_12 : decode b_MD_lose 12 = .ok (.ifCond .eq 23, 3) := by decide +kernel
theorem d_MD_lose_15 : decode b_MD_lose 15 = .ok (.iload_n 2, 1) := by decide +kernel
theorem d_MD_lose_16 : decode b_MD_lose 16 = .ok (.iconst 0, 1) := by decide +kernel
theorem d_MD_lose_17 : decode b_MD_lose 17 = .ok (.sipush 511, 3) := by decide +kernel
theorem d_MD_lose_20 : decode b_MD_lose 20 = .ok (.invokestatic 51, 3) := by decide +kernel
theorem d_MD_lose_23 : decode b_MD_lose 23 = .ok (.ifCond .eq 12, 3) := by decide +kernel
theorem d_MD_lose_26 : decode b_MD_lose 26 = .ok (.aload_n 0, 1) := by decide +kernel
theorem d_MD_lose_27 : decode b_MD_lose 27 = .ok (.iload_n 1, 1) := by decide +kernel
theorem d_MD_lose_28 : decode b_MD_lose 28 = .ok (.iload_n 2, 1) := by decide +kernel
theorem d_MD_lose_29 : decode b_MD_lose 29 = .ok (.invokevirtual 47, 3) := by decide +kernel
theorem d_MD_lose_32 : decode b_MD_lose 32 = .ok (.ifCond .ne 5, 3) := by decide +kernel
theorem d_MD_lose_35 : decode b_MD_lose 35 = .ok (.iconst (-1), 1) := by decide +kernel
theorem d_MD_lose_36 : decode b_MD_lose 36 = .ok (.ireturn, 1) := by decide +kernel
theorem d_MD_lose_37 : decode b_MD_lose 37 = .ok (.aload_n 0, 1) := by decide +kernel
theorem d_MD_lose_38 : decode b_MD_lose 38 = .ok (.getfield 13, 3) := by decide +kernel
theorem d_MD_lose_41 : decode b_MD_lose 41 = .ok (.sipush 512, 3) := by decide +kernel
theorem d_MD_lose_44 : decode b_MD_lose 44 = .ok (.iload_n 1, 1) := by decide +kernel
theorem d_MD_lose_45 : decode b_MD_lose 45 = .ok (.imul, 1) := by decide +kernel
theorem d_MD_lose_46 : decode b_MD_lose 46 = .ok (.iload_n 2, 1) := by decide +kernel
theorem d_MD_lose_47 : decode b_MD_lose 47 = .ok (.iadd, 1) := by decide +kernel
theorem d_MD_lose_48 : decode b_MD_lose 48 = .ok (.iconst 0, 1) := by decide +kernel
theorem d_MD_lose_49 : decode b_MD_lose 49 = .ok (.iastore, 1) := by decide +kernel
theorem d_MD_lose_50 : decode b_MD_lose 50 = .ok (.aload_n 0, 1) := by decide +kernel
theorem d_MD_lose_51 : decode b_MD_lose 51 = .ok (.iload_n 1, 1) := by decide +kernel
theorem d_MD_lose_52 : decode b_MD_lose 52 = .ok (.invokevirtual 55, 3) := by decide +kernel
theorem d_MD_lose_55 : decode b_MD_lose 55 = .ok (.ireturn, 1) := by decide +kernel
