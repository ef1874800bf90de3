theorem d_MD_skipTo_0 : decode b_MD_skipTo 0 = .ok (.iconst 0, 1) := by decide +kernel
theorem d_MD_skipTo_1 : decode b_MD_skipTo 1 = .ok (.istore_n 3, 1) := by decide +kernel
theorem d_MD_skipTo_2 : decode b_MD_skipTo 2 = .ok (.sipush 512, 3) := by decide +kernel
theorem d_MD_skipTo_5 : decode b_MD_skipTo 5 = .ok (.istore 4, 2) := by decide +kernel
theorem d_MD_skipTo_7 : decode b_MD_skipTo 7 = .ok (.iconst 0, 1) := by decide +kernel
theorem d_MD_skipTo_8 : decode b_MD_skipTo 8 = .ok (.istore 5, 2) := by decide +kernel
theorem d_MD_skipTo_10 : decode b_MD_skipTo 10 = .ok (.iload 5, 2) := by decide +kernel
theorem d_MD_skipTo_12 : decode b_MD_skipTo 12 = .ok (.bipush 12, 2) := by decide +kernel
theorem d_MD_skipTo_14 : decode b_MD_skipTo 14 = .ok (.if_icmp .ge 153, 3) := by decide +kernel
theorem d_MD_skipTo_17 : decode b_MD_skipTo 17 = .ok (.aload_n 0, 1) := by decide +kernel
theorem d_MD_skipTo_18 : decode b_MD_skipTo 18 = .ok (.iload 5, 2) := by decide +kernel
theorem d_MD_skipTo_20 : decode b_MD_skipTo 20 = .ok (.invokevirtual 89, 3) := by decide +kernel
theorem d_MD_skipTo_23 : decode b_MD_skipTo 23 = .ok (.ifCond .eq 43, 3) := by decide +kernel
theorem d_MD_skipTo_26 : decode b_MD_skipTo 26 = .ok (.aload_n 0, 1) := by decide +kernel
theorem d_MD_skipTo_27 : decode b_MD_skipTo 27 = .ok (.getfield 44, 3) := by decide +kernel
theorem d_MD_skipTo_30 : decode b_MD_skipTo 30 = .ok (.iload 5, 2) := by decide +kernel
theorem d_MD_skipTo_32 : decode b_MD_skipTo 32 = .ok (.iaload, 1) := by decide +kernel
theorem d_MD_skipTo_33 : decode b_MD_skipTo 33 = .ok (.iload_n 1, 1) := by decide +kernel
theorem d_MD_skipTo_34 : decode b_MD_skipTo 34 = .ok (.if_icmp .le 32, 3) := by decide +kernel
theorem d_MD_skipTo_37 : decode b_MD_skipTo 37 = .ok (.aload_n 0, 1) := by decide +kernel
theorem d_MD_skipTo_38 : decode b_MD_skipTo 38 = .ok (.getfield 44, 3) := by decide +kernel
theorem d_MD_skipTo_41 : decode b_MD_skipTo 41 = .ok (.iload 5, 2) := by decide +kernel
theorem d_MD_skipTo_43 : decode b_MD_skipTo 43 = .ok (.iaload, 1) := by decide +kernel
theorem d_MD_skipTo_44 : decode b_MD_skipTo 44 = .ok (.iload 4, 2) := by decide +kernel
theorem d_MD_skipTo_46 : decode b_MD_skipTo 46 = .ok (.if_icmp .ge 13, 3) := by decide +kernel
theorem d_MD_skipTo_49 : decode b_MD_skipTo 49 = .ok (.aload_n 0, 1) := by decide +kernel
theorem d_MD_skipTo_50 : decode b_MD_skipTo 50 = .ok (.getfield 44, 3) := by decide +kernel
theorem d_MD_skipTo_53 : decode b_MD_skipTo 53 = .ok (.iload 5, 2) := by decide +kernel
theorem d_MD_skipTo_55 : decode b_MD_skipTo 55 = .ok (.iaload, 1) := by decide +kernel
theorem d_MD_skipTo_56 : decode b_MD_skipTo 56 = .ok (.goto 5, 3) := by decide +kernel
theorem d_MD_skipTo_59 : decode b_MD_skipTo 59 = .ok (.iload 4, 2) := by decide +kernel
theorem d_MD_skipTo_61 : decode b_MD_skipTo 61 = .ok (.istore 4, 2) := by decide +kernel
theorem d_MD_skipTo_63 : decode b_MD_skipTo 63 = .ok (.goto 98, 3) := by decide +kernel
theorem d_MD_skipTo_66 : decode b_MD_skipTo 66 = .ok (.aload_n 0, 1) := by decide +kernel
theorem d_MD_skipTo_67 : decode b_MD_skipTo 67 = .ok (.iload 5, 2) := by decide +kernel
theorem d_MD_skipTo_69 : decode b_MD_skipTo 69 = .ok (.invokevirtual 89, 3) := by decide +kernel
theorem d_MD_skipTo_72 : decode b_MD_skipTo 72 = .ok (.ifCond .eq 89, 3) := by decide +kernel
theorem d_MD_skipTo_75 : decode b_MD_skipTo 75 = .ok (.aload_n 0, 1) := by decide +kernel
theorem d_MD_skipTo_76 : decode b_MD_skipTo 76 = .ok (.iload 5, 2) := by decide +kernel
theorem d_MD_skipTo_78 : decode b_MD_skipTo 78 = .ok (.iload_n 1, 1) := by decide +kernel
theorem d_MD_skipTo_79 : decode b_MD_skipTo 79 = .ok (.invokevirtual 86, 3) := by decide +kernel
theorem d_MD_skipTo_82 : decode b_MD_skipTo 82 = .ok (.sipush 512, 3) := by decide +kernel
theorem d_MD_skipTo_85 : decode b_MD_skipTo 85 = .ok (.if_icmp .ge 76, 3) := by decide +kernel
theorem d_MD_skipTo_88 : decode b_MD_skipTo 88 = .ok (.aload_n 0, 1) := by decide +kernel
theorem d_MD_skipTo_89 : decode b_MD_skipTo 89 = .ok (.iload 5, 2) := by decide +kernel
theorem d_MD_skipTo_91 : decode b_MD_skipTo 91 = .ok (.aload_n 0, 1) := by decide +kernel
theorem d_MD_skipTo_92 : decode b_MD_skipTo 92 = .ok (.iload 5, 2) := by decide +kernel
theorem d_MD_skipTo_94 : decode b_MD_skipTo 94 = .ok (.iload_n 1, 1) := by decide +kernel
theorem d_MD_skipTo_95 : decode b_MD_skipTo 95 = .ok (.invokevirtual 86, 3) := by decide +kernel
theorem d_MD_skipTo_98 : decode b_MD_skipTo 98 = .ok (.invokevirtual 95, 3) := by decide +kernel
theorem d_MD_skipTo_101 : decode b_MD_skipTo 101 = .ok (.bipush 8, 2) := by decide +kernel
theorem d_MD_skipTo_103 : decode b_MD_skipTo 103 = .ok (.idiv, 1) := by decide +kernel
theorem d_MD_skipTo_104 : decode b_MD_skipTo 104 = .ok (.bipush 8, 2) := by decide +kernel
theorem d_MD_skipTo_106 : decode b_MD_skipTo 106 = .ok (.imul, 1) := by decide +kernel
theorem d_MD_skipTo_107 : decode b_MD_skipTo 107 = .ok (.istore 6, 2) := by decide +kernel
theorem d_MD_skipTo_109 : decode b_MD_skipTo 109 = .ok (.iload_n 3, 1) := by decide +kernel
theorem d_MD_skipTo_110 : decode b_MD_skipTo 110 = .ok (.aload_n 0, 1) := by decide +kernel
theorem d_MD_skipTo_111 : decode b_MD_skipTo 111 = .ok (.getfield 23, 3) := by decide +kernel
theorem d_MD_skipTo_114 : decode b_MD_skipTo 114 = .ok (.iload 5, 2) := by decide +kernel
theorem d_MD_skipTo_116 : decode b_MD_skipTo 116 = .ok (.iaload, 1) := by decide +kernel
theorem d_MD_skipTo_117 : decode b_MD_skipTo 117 = .ok (.aload_n 0, 1) := by decide +kernel
theorem d_MD_skipTo_118 : decode b_MD_skipTo 118 = .ok (.iload 5, 2) := by decide +kernel
theorem d_MD_skipTo_120 : decode b_MD_skipTo 120 = .ok (.iload 6, 2) := by decide +kernel
theorem d_MD_skipTo_122 : decode b_MD_skipTo 122 = .ok (.iload 6, 2) := by decide +kernel
theorem d_MD_skipTo_124 : decode b_MD_skipTo 124 = .ok (.bipush 8, 2) := by decide +kernel
theorem d_MD_skipTo_126 : decode b_MD_skipTo 126 = .ok (.iadd, 1) := by decide +kernel
theorem d_MD_skipTo_127 : decode b_MD_skipTo 127 = .ok (.invokevirtual 59, 3) := by decide +kernel
theorem d_MD_skipTo_130 : decode b_MD_skipTo 130 = .ok (.imul, 1) := by decide +kernel
theorem d_MD_skipTo_131 : decode b_MD_skipTo 131 = .ok (.iadd, 1) := by decide +kernel
theorem d_MD_skipTo_132 : decode b_MD_skipTo 132 = .ok (.istore_n 3, 1) := by decide +kernel
theorem d_MD_skipTo_133 : decode b_MD_skipTo 133 = .ok (.aload_n 0, 1) := by decide +kernel
theorem d_MD_skipTo_134 : decode b_MD_skipTo 134 = .ok (.iload 5, 2) := by decide +kernel
theorem d_MD_skipTo_136 : decode b_MD_skipTo 136 = .ok (.iload 6, 2) := by decide +kernel
theorem d_MD_skipTo_138 : decode b_MD_skipTo 138 = .ok (.invokevirtual 98, 3) := by decide +kernel
theorem d_MD_skipTo_141 : decode b_MD_skipTo 141 = .ok (.iconst 1, 1) := by decide +kernel
theorem d_MD_skipTo_142 : decode b_MD_skipTo 142 = .ok (.iadd, 1) := by decide +kernel
theorem d_MD_skipTo_143 : decode b_MD_skipTo 143 = .ok (.istore 7, 2) := by decide +kernel
theorem d_MD_skipTo_145 : decode b_MD_skipTo 145 = .ok (.iload 7, 2) := by decide +kernel
theorem d_MD_skipTo_147 : decode b_MD_skipTo 147 = .ok (.iload 4, 2) := by decide +kernel
theorem d_MD_skipTo_149 : decode b_MD_skipTo 149 = .ok (.if_icmp .ge 8, 3) := by decide +kernel
theorem d_MD_skipTo_152 : decode b_MD_skipTo 152 = .ok (.iload 7, 2) := by decide +kernel
theorem d_MD_skipTo_154 : decode b_MD_skipTo 154 = .ok (.goto 5, 3) := by decide +kernel
theorem d_MD_skipTo_157 : decode b_MD_skipTo 157 = .ok (.iload 4, 2) := by decide +kernel
theorem d_MD_skipTo_159 : decode b_MD_skipTo 159 = .ok (.istore 4, 2) := by decide +kernel
theorem d_MD_skipTo_161 : decode b_MD_skipTo 161 = .ok (.iinc 5 1, 3) := by decide +kernel
theorem d_MD_skipTo_164 : decode b_MD_skipTo 164 = .ok (.goto (-154), 3) := by decide +kernel
theorem d_MD_skipTo_167 : decode b_MD_skipTo 167 = .ok (.iload_n 3, 1) := by decide +kernel
theorem d_MD_skipTo_168 : decode b_MD_skipTo 168 = .ok (.iload_n 2, 1) := by decide +kernel
theorem d_MD_skipTo_169 : decode b_MD_skipTo 169 = .ok (.if_icmp .le 7, 3) := by decide +kernel
theorem d_MD_skipTo_172 : decode b_MD_skipTo 172 = .ok (.iconst (-1), 1) := by decide +kernel
theorem d_MD_skipTo_173 : decode b_MD_skipTo 173 = .ok (.goto 5, 3) := by decide +kernel
theorem d_MD_skipTo_176 : decode b_MD_skipTo 176 = .ok (.iload 4, 2) := by decide +kernel
theorem d_MD_skipTo_178 : decode b_MD_skipTo 178 = .ok (.ireturn, 1) := by decide +kernel
theorem d_MD_judge_0 : decode b_MD_judge 0 = .ok (.aload_n 0, 1) := by decide +kernel
theorem d_MD_judge_1 : decode b_MD_judge 1 = .ok (.dup, 1) := by decide +kernel
theorem d_MD_judge_2 : decode b_MD_judge 2 = .ok (.getfield 101, 3) := by decide +kernel
theorem d_MD_judge_5 : decode b_MD_judge 5 = .ok (.iconst 1, 1) := by decide +kernel
theorem d_MD_judge_6 : decode b_MD_judge 6 = .ok (.iadd, 1) := by decide +kernel
theorem d_MD_judge_7 : decode b_MD_judge 7 = .ok (.putfield 101, 3) := by decide +kernel
theorem d_MD_judge_10 : decode b_MD_judge 10 = .ok (.aload_n 0, 1) := by decide +kernel
theorem d_MD_judge_11 : decode b_MD_judge 11 = .ok (.iload_n 1, 1) := by decide +kernel
theorem d_MD_judge_12 : decode b_MD_judge 12 = .ok (.invokevirtual 73, 3) := by decide +kernel
theorem d_MD_judge_15 : decode b_MD_judge 15 = .ok (.istore_n 2, 1) := by decide +kernel
theorem d_MD_judge_16 : decode b_MD_judge 16 = .ok (.aload_n 0, 1) := by decide +kernel
theorem d_MD_judge_17 : decode b_MD_judge 17 = .ok (.getfield 29, 3) := by decide +kernel
theorem d_MD_judge_20 : decode b_MD_judge 20 = .ok (.ifCond .lt 27, 3) := by decide +kernel
theorem d_MD_judge_23 : decode b_MD_judge 23 = .ok (.iload_n 2, 1) := by decide +kernel
theorem d_MD_judge_24 : decode b_MD_judge 24 = .ok (.aload_n 0, 1) := by decide +kernel
theorem d_MD_judge_25 : decode b_MD_judge 25 = .ok (.getfield 29, 3) := by decide +kernel
theorem d_MD_judge_28 : decode b_MD_judge 28 = .ok (.if_icmp .lt 19, 3) := by decide +kernel
theorem d_MD_judge_31 : decode b_MD_judge 31 = .ok (.iload_n 2, 1) := by decide +kernel
theorem d_MD_judge_32 : decode b_MD_judge 32 = .ok (.aload_n 0, 1) := by decide +kernel
theorem d_MD_judge_33 : decode b_MD_judge 33 = .ok (.getfield 29, 3) := by decide +kernel
theorem d_MD_judge_36 : decode b_MD_judge 36 = .ok (.if_icmp .ne 15, 3) := by decide +kernel
theorem d_MD_judge_39 : decode b_MD_judge 39 = .ok (.iload_n 1, 1) := by decide +kernel
theorem d_MD_judge_40 : decode b_MD_judge 40 = .ok (.aload_n 0, 1) := by decide +kernel
theorem d_MD_judge_41 : decode b_MD_judge 41 = .ok (.getfield 63, 3) := by decide +kernel
theorem d_MD_judge_44 : decode b_MD_judge 44 = .ok (.if_icmp .le 7, 3) := by decide +kernel
theorem d_MD_judge_47 : decode b_MD_judge 47 = .ok (.iconst 1, 1) := by decide +kernel
theorem d_MD_judge_48 : decode b_MD_judge 48 = .ok (.goto 4, 3) := by decide +kernel
theorem d_MD_judge_51 : decode b_MD_judge 51 = .ok (.iconst 0, 1) := by decide +kernel
theorem d_MD_judge_52 : decode b_MD_judge 52 = .ok (.istore_n 3, 1) := by decide +kernel
theorem d_MD_judge_53 : decode b_MD_judge 53 = .ok (.iload_n 3, 1) := by decide +kernel
theorem d_MD_judge_54 : decode b_MD_judge 54 = .ok (.ifCond .eq 17, 3) := by decide +kernel
theorem d_MD_judge_57 : decode b_MD_judge 57 = .ok (.aload_n 0, 1) := by decide +kernel
theorem d_MD_judge_58 : decode b_MD_judge 58 = .ok (.iload_n 1, 1) := by decide +kernel
theorem d_MD_judge_59 : decode b_MD_judge 59 = .ok (.invokevirtual 70, 3) := by decide +kernel
theorem d_MD_judge_62 : decode b_MD_judge 62 = .ok (.ifCond .eq 9, 3) := by decide +kernel
theorem d_MD_judge_65 : decode b_MD_judge 65 = .ok (.aload_n 0, 1) := by decide +kernel
theorem d_MD_judge_66 : decode b_MD_judge 66 = .ok (.iload_n 1, 1) := by decide +kernel
theorem d_MD_judge_67 : decode b_MD_judge 67 = .ok (.iload_n 2, 1) := by decide +kernel
theorem d_MD_judge_68 : decode b_MD_judge 68 = .ok (.invokevirtual 104, 3) := by decide +kernel
theorem d_MD_judge_71 : decode b_MD_judge 71 = .ok (.iconst 0, 1) := by decide +kernel
theorem d_MD_judge_72 : decode b_MD_judge 72 = .ok (.istore 4, 2) := by decide +kernel
theorem d_MD_judge_74 : decode b_MD_judge 74 = .ok (.iload 4, 2) := by decide +kernel
theorem d_MD_judge_76 : decode b_MD_judge 76 = .ok (.bipush 12, 2) := by decide +kernel
theorem d_MD_judge_78 : decode b_MD_judge 78 = .ok (.if_icmp .ge 45, 3) := by decide +kernel
theorem d_MD_judge_81 : decode b_MD_judge 81 = .ok (.aload_n 0, 1) := by decide +kernel
theorem d_MD_judge_82 : decode b_MD_judge 82 = .ok (.iload 4, 2) := by decide +kernel
theorem d_MD_judge_84 : decode b_MD_judge 84 = .ok (.invokevirtual 89, 3) := by decide +kernel
theorem d_MD_judge_87 : decode b_MD_judge 87 = .ok (.ifCond .eq 30, 3) := by decide +kernel
theorem d_MD_judge_90 : decode b_MD_judge 90 = .ok (.aload_n 0, 1) := by decide +kernel
theorem d_MD_judge_91 : decode b_MD_judge 91 = .ok (.getfield 44, 3) := by decide +kernel
theorem d_MD_judge_94 : decode b_MD_judge 94 = .ok (.iload 4, 2) := by decide +kernel
theorem d_MD_judge_96 : decode b_MD_judge 96 = .ok (.iaload, 1) := by decide +kernel
theorem d_MD_judge_97 : decode b_MD_judge 97 = .ok (.iload_n 1, 1) := by decide +kernel
theorem d_MD_judge_98 : decode b_MD_judge 98 = .ok (.if_icmp .ne 19, 3) := by decide +kernel
theorem d_MD_judge_101 : decode b_MD_judge 101 = .ok (.aload_n 0, 1) := by decide +kernel
theorem d_MD_judge_102 : decode b_MD_judge 102 = .ok (.getfield 44, 3) := by decide +kernel
theorem d_MD_judge_105 : decode b_MD_judge 105 = .ok (.iload 4, 2) := by decide +kernel
theorem d_MD_judge_107 : decode b_MD_judge 107 = .ok (.aload_n 0, 1) := by decide +kernel
theorem d_MD_judge_108 : decode b_MD_judge 108 = .ok (.iload 4, 2) := by decide +kernel
theorem d_MD_judge_110 : decode b_MD_judge 110 = .ok (.iload_n 1, 1) := by decide +kernel
theorem d_MD_judge_111 : decode b_MD_judge 111 = .ok (.iconst 1, 1) := by decide +kernel
theorem d_MD_judge_112 : decode b_MD_judge 112 = .ok (.iadd, 1) := by decide +kernel
theorem d_MD_judge_113 : decode b_MD_judge 113 = .ok (.invokevirtual 86, 3) := by decide +kernel
theorem d_MD_judge_116 : decode b_MD_judge 116 = .ok (.iastore, 1) := by decide +kernel
theorem d_MD_judge_117 : decode b_MD_judge 117 = .ok (.iinc 4 1, 3) := by decide +kernel
theorem d_MD_judge_120 : decode b_MD_judge 120 = .ok (.goto (-46), 3) := by decide +kernel
theorem d_MD_judge_123 : decode b_MD_judge 123 = .ok (.return_, 1) := by decide +kernel
theorem d_MD_step_0 : decode b_MD_step 0 = .ok (.aload_n 0, 1) := by decide +kernel
theorem d_MD_step_1 : decode b_MD_step 1 = .ok (.invokevirtual 107, 3) := by decide +kernel
theorem d_MD_step_4 : decode b_MD_step 4 = .ok (.ifCond .eq 5, 3) := by decide +kernel
theorem d_MD_step_7 : decode b_MD_step 7 = .ok (.iconst 0, 1) := by decide +kernel
theorem d_MD_step_8 : decode b_MD_step 8 = .ok (.ireturn, 1) := by decide +kernel
theorem d_MD_step_9 : decode b_MD_step 9 = .ok (.aload_n 0, 1) := by decide +kernel
theorem d_MD_step_10 : decode b_MD_step 10 = .ok (.invokevirtual 111, 3) := by decide +kernel
theorem d_MD_step_13 : decode b_MD_step 13 = .ok (.istore_n 1, 1) := by decide +kernel
theorem d_MD_step_14 : decode b_MD_step 14 = .ok (.aload_n 0, 1) := by decide +kernel
theorem d_MD_step_15 : decode b_MD_step 15 = .ok (.iload_n 1, 1) := by decide +kernel
theorem d_MD_step_16 : decode b_MD_step 16 = .ok (.invokevirtual 115, 3) := by decide +kernel
theorem d_MD_step_19 : decode b_MD_step 19 = .ok (.istore_n 2, 1) := by decide +kernel
theorem d_MD_step_20 : decode b_MD_step 20 = .ok (.iload_n 2, 1) := by decide +kernel
theorem d_MD_step_21 : decode b_MD_step 21 = .ok (.sipush 512, 3) := by decide +kernel
theorem d_MD_step_24 : decode b_MD_step 24 = .ok (.if_icmp .ne 5, 3) := by decide +kernel
theorem d_MD_step_27 : decode b_MD_step 27 = .ok (.iconst 1, 1) := by decide +kernel
theorem d_MD_step_28 : decode b_MD_step 28 = .ok (.ireturn, 1) := by decide +kernel
theorem d_MD_step_29 : decode b_MD_step 29 = .ok (.iconst (-1), 1) := by decide +kernel
theorem d_MD_step_30 : decode b_MD_step 30 = .ok (.istore_n 3, 1) := by decide +kernel
theorem d_MD_step_31 : decode b_MD_step 31 = .ok (.iconst 0, 1) := by decide +kernel
theorem d_MD_step_32 : decode b_MD_step 32 = .ok (.istore 4, 2) := by decide +kernel
theorem d_MD_step_34 : decode b_MD_step 34 = .ok (.iconst 0, 1) := by decide +kernel
theorem d_MD_step_35 : decode b_MD_step 35 = .ok (.istore 5, 2) := by decide +kernel
theorem d_MD_step_37 : decode b_MD_step 37 = .ok (.iload 5, 2) := by decide +kernel
theorem d_MD_step_39 : decode b_MD_step 39 = .ok (.bipush 12, 2) := by decide +kernel
theorem d_MD_step_41 : decode b_MD_step 41 = .ok (.if_icmp .ge 95, 3) := by decide +kernel
theorem d_MD_step_44 : decode b_MD_step 44 = .ok (.aload_n 0, 1) := by decide +kernel
theorem d_MD_step_45 : decode b_MD_step 45 = .ok (.iload 5, 2) := by decide +kernel
theorem d_MD_step_47 : decode b_MD_step 47 = .ok (.invokevirtual 89, 3) := by decide +kernel
theorem d_MD_step_50 : decode b_MD_step 50 = .ok (.ifCond .eq 46, 3) := by decide +kernel
theorem d_MD_step_53 : decode b_MD_step 53 = .ok (.aload_n 0, 1) := by decide +kernel
theorem d_MD_step_54 : decode b_MD_step 54 = .ok (.getfield 20, 3) := by decide +kernel
theorem d_MD_step_57 : decode b_MD_step 57 = .ok (.iload 5, 2) := by decide +kernel
theorem d_MD_step_59 : decode b_MD_step 59 = .ok (.iaload, 1) := by decide +kernel
theorem d_MD_step_60 : decode b_MD_step 60 = .ok (.iconst 2, 1) := by decide +kernel
theorem d_MD_step_61 : decode b_MD_step 61 = .ok (.if_icmp .ne 35, 3) := by decide +kernel
theorem d_MD_step_64 : decode b_MD_step 64 = .ok (.aload_n 0, 1) := by decide +kernel
theorem d_MD_step_65 : decode b_MD_step 65 = .ok (.getfield 44, 3) := by decide +kernel
theorem d_MD_step_68 : decode b_MD_step 68 = .ok (.iload 5, 2) := by decide +kernel
theorem d_MD_step_70 : decode b_MD_step 70 = .ok (.iaload, 1) := by decide +kernel
theorem d_MD_step_71 : decode b_MD_step 71 = .ok (.iload_n 2, 1) := by decide +kernel
theorem d_MD_step_72 : decode b_MD_step 72 = .ok (.if_icmp .le 24, 3) := by decide +kernel
theorem d_MD_step_75 : decode b_MD_step 75 = .ok (.aload_n 0, 1) := by decide +kernel
theorem d_MD_step_76 : decode b_MD_step 76 = .ok (.getfield 44, 3) := by decide +kernel
theorem d_MD_step_79 : decode b_MD_step 79 = .ok (.iload 5, 2) := by decide +kernel
theorem d_MD_step_81 : decode b_MD_step 81 = .ok (.iaload, 1) := by decide +kernel
theorem d_MD_step_82 : decode b_MD_step 82 = .ok (.iload_n 3, 1) := by decide +kernel
theorem d_MD_step_83 : decode b_MD_step 83 = .ok (.if_icmp .le 13, 3) := by decide +kernel
theorem d_MD_step_86 : decode b_MD_step 86 = .ok (.aload_n 0, 1) := by decide +kernel
theorem d_MD_step_87 : decode b_MD_step 87 = .ok (.getfield 44, 3) := by decide +kernel
theorem d_MD_step_90 : decode b_MD_step 90 = .ok (.iload 5, 2) := by decide +kernel
theorem d_MD_step_92 : decode b_MD_step 92 = .ok (.iaload, 1) := by decide +kernel
theorem d_MD_step_93 : decode b_MD_step 93 = .ok (.goto 4, 3) := by decide +kernel
theorem d_MD_step_96 : decode b_MD_step 96 = .ok (.iload_n 3, 1) := by decide +kernel
theorem d_MD_step_97 : decode b_MD_step 97 = .ok (.istore_n 3, 1) := by decide +kernel
theorem d_MD_step_98 : decode b_MD_step 98 = .ok (.iload 4, 2) := by decide +kernel
theorem d_MD_step_100 : decode b_MD_step 100 = .ok (.ifCond .ne 23, 3) := by decide +kernel
theorem d_MD_step_103 : decode b_MD_step 103 = .ok (.aload_n 0, 1) := by decide +kernel
theorem d_MD_step_104 : decode b_MD_step 104 = .ok (.iload 5, 2) := by decide +kernel
theorem d_MD_step_106 : decode b_MD_step 106 = .ok (.invokevirtual 89, 3) := by decide +kernel
theorem d_MD_step_109 : decode b_MD_step 109 = .ok (.ifCond .eq 18, 3) := by decide +kernel
theorem d_MD_step_112 : decode b_MD_step 112 = .ok (.aload_n 0, 1) := by decide +kernel
theorem d_MD_step_113 : decode b_MD_step 113 = .ok (.getfield 44, 3) := by decide +kernel
theorem d_MD_step_116 : decode b_MD_step 116 = .ok (.iload 5, 2) := by decide +kernel
theorem d_MD_step_118 : decode b_MD_step 118 = .ok (.iaload, 1) := by decide +kernel
theorem d_MD_step_119 : decode b_MD_step 119 = .ok (.iload_n 2, 1) := by decide +kernel
theorem d_MD_step_120 : decode b_MD_step 120 = .ok (.if_icmp .ge 7, 3) := by decide +kernel
theorem d_MD_step_123 : decode b_MD_step 123 = .ok (.iconst 1, 1) := by decide +kernel
theorem d_MD_step_124 : decode b_MD_step 124 = .ok (.goto 4, 3) := by decide +kernel
theorem d_MD_step_127 : decode b_MD_step 127 = .ok (.iconst 0, 1) := by decide +kernel
theorem d_MD_step_128 : decode b_MD_step 128 = .ok (.istore 4, 2) := by decide +kernel
theorem d_MD_step_130 : decode b_MD_step 130 = .ok (.iinc 5 1, 3) := by decide +kernel
theorem d_MD_step_133 : decode b_MD_step 133 = .ok (.goto (-96), 3) := by decide +kernel
theorem d_MD_step_136 : decode b_MD_step 136 = .ok (.iload_n 3, 1) := by decide +kernel
theorem d_MD_step_137 : decode b_MD_step 137 = .ok (.ifCond .ge 12, 3) := by decide +kernel
theorem d_MD_step_140 : decode b_MD_step 140 = .ok (.aload_n 0, 1) := by decide +kernel
theorem d_MD_step_141 : decode b_MD_step 141 = .ok (.iload_n 2, 1) := by decide +kernel
theorem d_MD_step_142 : decode b_MD_step 142 = .ok (.iload_n 1, 1) := by decide +kernel
theorem d_MD_step_143 : decode b_MD_step 143 = .ok (.invokevirtual 118, 3) := by decide +kernel
theorem d_MD_step_146 : decode b_MD_step 146 = .ok (.goto 4, 3) := by decide +kernel
theorem d_MD_step_149 : decode b_MD_step 149 = .ok (.iload_n 3, 1) := by decide +kernel
theorem d_MD_step_150 : decode b_MD_step 150 = .ok (.istore 5, 2) := by decide +kernel
theorem d_MD_step_152 : decode b_MD_step 152 = .ok (.iload 5, 2) := by decide +kernel
theorem d_MD_step_154 : decode b_MD_step 154 = .ok (.ifCond .lt 33, 3) := by decide +kernel
theorem d_MD_step_157 : decode b_MD_step 157 = .ok (.aload_n 0, 1) := by decide +kernel
theorem d_MD_step_158 : decode b_MD_step 158 = .ok (.iload_n 3, 1) := by decide +kernel
theorem d_MD_step_159 : decode b_MD_step 159 = .ok (.ifCond .ge 12, 3) := by decide +kernel
theorem d_MD_step_162 : decode b_MD_step 162 = .ok (.aload_n 0, 1) := by decide +kernel
theorem d_MD_step_163 : decode b_MD_step 163 = .ok (.getfield 121, 3) := by decide +kernel
theorem d_MD_step_166 : decode b_MD_step 166 = .ok (.iconst 1, 1) := by decide +kernel
theorem d_MD_step_167 : decode b_MD_step 167 = .ok (.iadd, 1) := by decide +kernel
theorem d_MD_step_168 : decode b_MD_step 168 = .ok (.goto 7, 3) := by decide +kernel
theorem d_MD_step_171 : decode b_MD_step 171 = .ok (.aload_n 0, 1) := by decide +kernel
theorem d_MD_step_172 : decode b_MD_step 172 = .ok (.getfield 121, 3) := by decide +kernel
theorem d_MD_step_175 : decode b_MD_step 175 = .ok (.putfield 121, 3) := by decide +kernel
theorem d_MD_step_178 : decode b_MD_step 178 = .ok (.aload_n 0, 1) := by decide +kernel
theorem d_MD_step_179 : decode b_MD_step 179 = .ok (.iload 5, 2) := by decide +kernel
theorem d_MD_step_181 : decode b_MD_step 181 = .ok (.invokevirtual 124, 3) := by decide +kernel
theorem d_MD_step_184 : decode b_MD_step 184 = .ok (.goto 21, 3) := by decide +kernel
theorem d_MD_step_187 : decode b_MD_step 187 = .ok (.iload 4, 2) := by decide +kernel
theorem d_MD_step_189 : decode b_MD_step 189 = .ok (.ifCond .eq 11, 3) := by decide +kernel
theorem d_MD_step_192 : decode b_MD_step 192 = .ok (.aload_n 0, 1) := by decide +kernel
theorem d_MD_step_193 : decode b_MD_step 193 = .ok (.iload_n 2, 1) := by decide +kernel
theorem d_MD_step_194 : decode b_MD_step 194 = .ok (.invokevirtual 124, 3) := by decide +kernel
theorem d_MD_step_197 : decode b_MD_step 197 = .ok (.goto 8, 3) := by decide +kernel
theorem d_MD_step_200 : decode b_MD_step 200 = .ok (.aload_n 0, 1) := by decide +kernel
theorem d_MD_step_201 : decode b_MD_step 201 = .ok (.iload_n 2, 1) := by decide +kernel
theorem d_MD_step_202 : decode b_MD_step 202 = .ok (.invokevirtual 128, 3) := by decide +kernel
theorem d_MD_step_205 : decode b_MD_step 205 = .ok (.iconst (-1), 1) := by decide +kernel
theorem d_MD_step_206 : decode b_MD_step 206 = .ok (.ireturn, 1) := by decide +kernel
theorem d_MD_walk_0 : decode b_MD_walk 0 = .ok (.aload_n 0, 1) := by decide +kernel
theorem d_MD_walk_1 : decode b_MD_walk 1 = .ok (.iconst 0, 1) := by decide +kernel
theorem d_MD_walk_2 : decode b_MD_walk 2 = .ok (.putfield 1, 3) := by decide +kernel
theorem d_MD_walk_5 : decode b_MD_walk 5 = .ok (.iload_n 1, 1) := by decide +kernel
theorem d_MD_walk_6 : decode b_MD_walk 6 = .ok (.iconst 1, 1) := by decide +kernel
theorem d_MD_walk_7 : decode b_MD_walk 7 = .ok (.sipush 10000, 3) := by decide +kernel
theorem d_MD_walk_10 : decode b_MD_walk 10 = .ok (.invokestatic 51, 3) := by decide +kernel
theorem d_MD_walk_13 : decode b_MD_walk 13 = .ok (.ifCond .ne 5, 3) := by decide +kernel
theorem d_MD_walk_16 : decode b_MD_walk 16 = .ok (.iconst (-1), 1) := by decide +kernel
theorem d_MD_walk_17 : decode b_MD_walk 17 = .ok (.ireturn, 1) := by decide +kernel
theorem d_MD_walk_18 : decode b_MD_walk 18 = .ok (.aload_n 0, 1) := by decide +kernel
theorem d_MD_walk_19 : decode b_MD_walk 19 = .ok (.iconst 0, 1) := by decide +kernel
theorem d_MD_walk_20 : decode b_MD_walk 20 = .ok (.putfield 76, 3) := by decide +kernel
theorem d_MD_walk_23 : decode b_MD_walk 23 = .ok (.aload_n 0, 1) := by decide +kernel
theorem d_MD_walk_24 : decode b_MD_walk 24 = .ok (.iconst 0, 1) := by decide +kernel
theorem d_MD_walk_25 : decode b_MD_walk 25 = .ok (.putfield 131, 3) := by decide +kernel
theorem d_MD_walk_28 : decode b_MD_walk 28 = .ok (.aload_n 0, 1) := by decide +kernel
theorem d_MD_walk_29 : decode b_MD_walk 29 = .ok (.iconst 1, 1) := by decide +kernel
theorem d_MD_walk_30 : decode b_MD_walk 30 = .ok (.putfield 135, 3) := by decide +kernel
theorem d_MD_walk_33 : decode b_MD_walk 33 = .ok (.aload_n 0, 1) := by decide +kernel
theorem d_MD_walk_34 : decode b_MD_walk 34 = .ok (.iconst 0, 1) := by decide +kernel
theorem d_MD_walk_35 : decode b_MD_walk 35 = .ok (.putfield 138, 3) := by decide +kernel
theorem d_MD_walk_38 : decode b_MD_walk 38 = .ok (.aload_n 0, 1) := by decide +kernel
theorem d_MD_walk_39 : decode b_MD_walk 39 = .ok (.iconst 0, 1) := by decide +kernel
theorem d_MD_walk_40 : decode b_MD_walk 40 = .ok (.putfield 101, 3) := by decide +kernel
theorem d_MD_walk_43 : decode b_MD_walk 43 = .ok (.aload_n 0, 1) := by decide +kernel
theorem d_MD_walk_44 : decode b_MD_walk 44 = .ok (.iconst 0, 1) := by decide +kernel
theorem d_MD_walk_45 : decode b_MD_walk 45 = .ok (.putfield 121, 3) := by decide +kernel
theorem d_MD_walk_48 : decode b_MD_walk 48 = .ok (.aload_n 0, 1) := by decide +kernel
theorem d_MD_walk_49 : decode b_MD_walk 49 = .ok (.iconst 0, 1) := by decide +kernel
theorem d_MD_walk_50 : decode b_MD_walk 50 = .ok (.putfield 83, 3) := by decide +kernel
theorem d_MD_walk_53 : decode b_MD_walk 53 = .ok (.aload_n 0, 1) := by decide +kernel
theorem d_MD_walk_54 : decode b_MD_walk 54 = .ok (.iconst (-1), 1) := by decide +kernel
theorem d_MD_walk_55 : decode b_MD_walk 55 = .ok (.putfield 141, 3) := by decide +kernel
theorem d_MD_walk_58 : decode b_MD_walk 58 = .ok (.iconst 0, 1) := by decide +kernel
theorem d_MD_walk_59 : decode b_MD_walk 59 = .ok (.istore_n 2, 1) := by decide +kernel
theorem d_MD_walk_60 : decode b_MD_walk 60 = .ok (.iload_n 2, 1) := by decide +kernel
theorem d_MD_walk_61 : decode b_MD_walk 61 = .ok (.bipush 12, 2) := by decide +kernel
theorem d_MD_walk_63 : decode b_MD_walk 63 = .ok (.if_icmp .ge 21, 3) := by decide +kernel
theorem d_MD_walk_66 : decode b_MD_walk 66 = .ok (.aload_n 0, 1) := by decide +kernel
theorem d_MD_walk_67 : decode b_MD_walk 67 = .ok (.getfield 44, 3) := by decide +kernel
theorem d_MD_walk_70 : decode b_MD_walk 70 = .ok (.iload_n 2, 1) := by decide +kernel
theorem d_MD_walk_71 : decode b_MD_walk 71 = .ok (.aload_n 0, 1) := by decide +kernel
theorem d_MD_walk_72 : decode b_MD_walk 72 = .ok (.iload_n 2, 1) := by decide +kernel
theorem d_MD_walk_73 : decode b_MD_walk 73 = .ok (.iconst 0, 1) := by decide +kernel
theorem d_MD_walk_74 : decode b_MD_walk 74 = .ok (.invokevirtual 86, 3) := by decide +kernel
theorem d_MD_walk_77 : decode b_MD_walk 77 = .ok (.iastore, 1) := by decide +kernel
theorem d_MD_walk_78 : decode b_MD_walk 78 = .ok (.iinc 2 1, 3) := by decide +kernel
theorem d_MD_walk_81 : decode b_MD_walk 81 = .ok (.goto (-21), 3) := by decide +kernel
theorem d_MD_walk_84 : decode b_MD_walk 84 = .ok (.aload_n 0, 1) := by decide +kernel
theorem d_MD_walk_85 : decode b_MD_walk 85 = .ok (.getfield 138, 3) := by decide +kernel
theorem d_MD_walk_88 : decode b_MD_walk 88 = .ok (.iload_n 1, 1) := by decide +kernel
theorem d_MD_walk_89 : decode b_MD_walk 89 = .ok (.if_icmp .ge 31, 3) := by decide +kernel
theorem d_MD_walk_92 : decode b_MD_walk 92 = .ok (.aload_n 0, 1) := by decide +kernel
theorem d_MD_walk_93 : decode b_MD_walk 93 = .ok (.getfield 141, 3) := by decide +kernel
theorem d_MD_walk_96 : decode b_MD_walk 96 = .ok (.ifCond .ge 24, 3) := by decide +kernel
theorem d_MD_walk_99 : decode b_MD_walk 99 = .ok (.aload_n 0, 1) := by decide +kernel
theorem d_MD_walk_100 : decode b_MD_walk 100 = .ok (.dup, 1) := by decide +kernel
theorem d_MD_walk_101 : decode b_MD_walk 101 = .ok (.getfield 138, 3) := by decide +kernel
theorem d_MD_walk_104 : decode b_MD_walk 104 = .ok (.iconst 1, 1) := by decide +kernel
theorem d_MD_walk_105 : decode b_MD_walk 105 = .ok (.iadd, 1) := by decide +kernel
theorem d_MD_walk_106 : decode b_MD_walk 106 = .ok (.putfield 138, 3) := by decide +kernel
theorem d_MD_walk_109 : decode b_MD_walk 109 = .ok (.aload_n 0, 1) := by decide +kernel
theorem d_MD_walk_110 : decode b_MD_walk 110 = .ok (.aload_n 0, 1) := by decide +kernel
theorem d_MD_walk_111 : decode b_MD_walk 111 = .ok (.invokevirtual 144, 3) := by decide +kernel
theorem d_MD_walk_114 : decode b_MD_walk 114 = .ok (.putfield 141, 3) := by decide +kernel
theorem d_MD_walk_117 : decode b_MD_walk 117 = .ok (.goto (-33), 3) := by decide +kernel
theorem d_MD_walk_120 : decode b_MD_walk 120 = .ok (.aload_n 0, 1) := by decide +kernel
theorem d_MD_walk_121 : decode b_MD_walk 121 = .ok (.aload_n 0, 1) := by decide +kernel
theorem d_MD_walk_122 : decode b_MD_walk 122 = .ok (.getfield 141, 3) := by decide +kernel
theorem d_MD_walk_125 : decode b_MD_walk 125 = .ok (.ifCond .ge 7, 3) := by decide +kernel
theorem d_MD_walk_128 : decode b_MD_walk 128 = .ok (.iconst 2, 1) := by decide +kernel
theorem d_MD_walk_129 : decode b_MD_walk 129 = .ok (.goto 7, 3) := by decide +kernel
theorem d_MD_walk_132 : decode b_MD_walk 132 = .ok (.aload_n 0, 1) := by decide +kernel
theorem d_MD_walk_133 : decode b_MD_walk 133 = .ok (.getfield 141, 3) := by decide +kernel
theorem d_MD_walk_136 : decode b_MD_walk 136 = .ok (.putfield 141, 3) := by decide +kernel
theorem d_MD_walk_139 : decode b_MD_walk 139 = .ok (.aload_n 0, 1) := by decide +kernel
theorem d_MD_walk_140 : decode b_MD_walk 140 = .ok (.aload_n 0, 1) := by decide +kernel
theorem d_MD_walk_141 : decode b_MD_walk 141 = .ok (.invokevirtual 111, 3) := by decide +kernel
theorem d_MD_walk_144 : decode b_MD_walk 144 = .ok (.putfield 147, 3) := by decide +kernel
theorem d_MD_walk_147 : decode b_MD_walk 147 = .ok (.aload_n 0, 1) := by decide +kernel
theorem d_MD_walk_148 : decode b_MD_walk 148 = .ok (.sipush 512, 3) := by decide +kernel
theorem d_MD_walk_151 : decode b_MD_walk 151 = .ok (.putfield 150, 3) := by decide +kernel
theorem d_MD_walk_154 : decode b_MD_walk 154 = .ok (.iconst 0, 1) := by decide +kernel
theorem d_MD_walk_155 : decode b_MD_walk 155 = .ok (.istore_n 2, 1) := by decide +kernel
theorem d_MD_walk_156 : decode b_MD_walk 156 = .ok (.iload_n 2, 1) := by decide +kernel
theorem d_MD_walk_157 : decode b_MD_walk 157 = .ok (.bipush 12, 2) := by decide +kernel
theorem d_MD_walk_159 : decode b_MD_walk 159 = .ok (.if_icmp .ge 47, 3) := by decide +kernel
theorem d_MD_walk_162 : decode b_MD_walk 162 = .ok (.aload_n 0, 1) := by decide +kernel
theorem d_MD_walk_163 : decode b_MD_walk 163 = .ok (.aload_n 0, 1) := by decide +kernel
theorem d_MD_walk_164 : decode b_MD_walk 164 = .ok (.iload_n 2, 1) := by decide +kernel
theorem d_MD_walk_165 : decode b_MD_walk 165 = .ok (.invokevirtual 89, 3) := by decide +kernel
theorem d_MD_walk_168 : decode b_MD_walk 168 = .ok (.ifCond .eq 25, 3) := by decide +kernel
theorem d_MD_walk_171 : decode b_MD_walk 171 = .ok (.aload_n 0, 1) := by decide +kernel
theorem d_MD_walk_172 : decode b_MD_walk 172 = .ok (.getfield 44, 3) := by decide +kernel
theorem d_MD_walk_175 : decode b_MD_walk 175 = .ok (.iload_n 2, 1) := by decide +kernel
theorem d_MD_walk_176 : decode b_MD_walk 176 = .ok (.iaload, 1) := by decide +kernel
theorem d_MD_walk_177 : decode b_MD_walk 177 = .ok (.aload_n 0, 1) := by decide +kernel
theorem d_MD_walk_178 : decode b_MD_walk 178 = .ok (.getfield 150, 3) := by decide +kernel
theorem d_MD_walk_181 : decode b_MD_walk 181 = .ok (.if_icmp .ge 12, 3) := by decide +kernel
theorem d_MD_walk_184 : decode b_MD_walk 184 = .ok (.aload_n 0, 1) := by decide +kernel
theorem d_MD_walk_185 : decode b_MD_walk 185 = .ok (.getfield 44, 3) := by decide +kernel
theorem d_MD_walk_188 : decode b_MD_walk 188 = .ok (.iload_n 2, 1) := by decide +kernel
theorem d_MD_walk_189 : decode b_MD_walk 189 = .ok (.iaload, 1) := by decide +kernel
theorem d_MD_walk_190 : decode b_MD_walk 190 = .ok (.goto 7, 3) := by decide +kernel
theorem d_MD_walk_193 : decode b_MD_walk 193 = .ok (.aload_n 0, 1) := by decide +kernel
theorem d_MD_walk_194 : decode b_MD_walk 194 = .ok (.getfield 150, 3) := by decide +kernel
theorem d_MD_walk_197 : decode b_MD_walk 197 = .ok (.putfield 150, 3) := by decide +kernel
theorem d_MD_walk_200 : decode b_MD_walk 200 = .ok (.iinc 2 1, 3) := by decide +kernel
theorem d_MD_walk_203 : decode b_MD_walk 203 = .ok (.goto (-47), 3) := by decide +kernel
theorem d_MD_walk_206 : decode b_MD_walk 206 = .ok (.aload_n 0, 1) := by decide +kernel
theorem d_MD_walk_207 : decode b_MD_walk 207 = .ok (.getfield 76, 3) := by decide +kernel
theorem d_MD_walk_210 : decode b_MD_walk 210 = .ok (.ireturn, 1) := by decide +kernel
