theorem d_MD_isSomewhere_0 : decode b_MD_isSomewhere 0 = .ok (.iconst 0, 1) := by decide +kernel
theorem d_MD_isSomewhere_1 : decode b_MD_isSomewhere 1 = .ok (.istore_n 2, 1) := by decide +kernel
theorem d_MD_isSomewhere_2 : decode b_MD_isSomewhere 2 = .ok (.iconst 0, 1) := by decide +kernel
theorem d_MD_isSomewhere_3 : decode b_MD_isSomewhere 3 = .ok (.istore_n 3, 1) := by decide +kernel
theorem d_MD_isSomewhere_4 : decode b_MD_isSomewhere 4 = .ok (.iload_n 3, 1) := by decide +kernel
theorem d_MD_isSomewhere_5 : decode b_MD_isSomewhere 5 = .ok (.bipush 12, 2) := by decide +kernel
theorem d_MD_isSomewhere_7 : decode b_MD_isSomewhere 7 = .ok (.if_icmp .ge 28, 3) := by decide +kernel
theorem d_MD_isSomewhere_10 : decode b_MD_isSomewhere 10 = .ok (.iload_n 2, 1) := by decide +kernel
theorem d_MD_isSomewhere_11 : decode b_MD_isSomewhere 11 = .ok (.ifCond .ne 12, 3) := by decide +kernel
theorem d_MD_isSomewhere_14 : decode b_MD_isSomewhere 14 = .ok (.aload_n 0, 1) := by decide +kernel
theorem d_MD_isSomewhere_15 : decode b_MD_isSomewhere 15 = .ok (.iload_n 3, 1) := by decide +kernel
theorem d_MD_isSomewhere_16 : decode b_MD_isSomewhere 16 = .ok (.iload_n 1, 1) := by decide +kernel
theorem d_MD_isSomewhere_17 : decode b_MD_isSomewhere 17 = .ok (.invokevirtual 47, 3) := by decide +kernel
theorem d_MD_isSomewhere_20 : decode b_MD_isSomewhere 20 = .ok (.ifCond .le 7, 3) := by decide +kernel
theorem d_MD_isSomewhere_23 : decode b_MD_isSomewhere 23 = .ok (.iconst 1, 1) := by decide +kernel
theorem d_MD_isSomewhere_24 : decode b_MD_isSomewhere 24 = .ok (.goto 4, 3) := by decide +kernel
theorem d_MD_isSomewhere_27 : decode b_MD_isSomewhere 27 = .ok (.iconst 0, 1) := by decide +kernel
theorem d_MD_isSomewhere_28 : decode b_MD_isSomewhere 28 = .ok (.istore_n 2, 1) := by decide +kernel
theorem d_MD_isSomewhere_29 : decode b_MD_isSomewhere 29 = .ok (.iinc 3 1, 3) := by decide +kernel
theorem d_MD_isSomewhere_32 : decode b_MD_isSomewhere 32 = .ok (.goto (-28), 3) := by decide +kernel
theorem d_MD_isSomewhere_35 : decode b_MD_isSomewhere 35 = .ok (.iload_n 2, 1) := by decide +kernel
theorem d_MD_isSomewhere_36 : decode b_MD_isSomewhere 36 = .ok (.ireturn, 1) := by decide +kernel
theorem d_MD_keys_0 : decode b_MD_keys 0 = .ok (.aload_n 0, 1) := by decide +kernel
theorem d_MD_keys_1 : decode b_MD_keys 1 = .ok (.iconst 0, 1) := by decide +kernel
theorem d_MD_keys_2 : decode b_MD_keys 2 = .ok (.putfield 1, 3) := by decide +kernel
theorem d_MD_keys_5 : decode b_MD_keys 5 = .ok (.aload_n 0, 1) := by decide +kernel
theorem d_MD_keys_6 : decode b_MD_keys 6 = .ok (.iconst 0, 1) := by decide +kernel
theorem d_MD_keys_7 : decode b_MD_keys 7 = .ok (.putfield 76, 3) := by decide +kernel
theorem d_MD_keys_10 : decode b_MD_keys 10 = .ok (.aload_n 0, 1) := by decide +kernel
theorem d_MD_keys_11 : decode b_MD_keys 11 = .ok (.iconst 1, 1) := by decide +kernel
theorem d_MD_keys_12 : decode b_MD_keys 12 = .ok (.putfield 131, 3) := by decide +kernel
theorem d_MD_keys_15 : decode b_MD_keys 15 = .ok (.aload_n 0, 1) := by decide +kernel
theorem d_MD_keys_16 : decode b_MD_keys 16 = .ok (.iconst 1, 1) := by decide +kernel
theorem d_MD_keys_17 : decode b_MD_keys 17 = .ok (.putfield 135, 3) := by decide +kernel
theorem d_MD_keys_20 : decode b_MD_keys 20 = .ok (.aload_n 0, 1) := by decide +kernel
theorem d_MD_keys_21 : decode b_MD_keys 21 = .ok (.iconst 0, 1) := by decide +kernel
theorem d_MD_keys_22 : decode b_MD_keys 22 = .ok (.putfield 153, 3) := by decide +kernel
theorem d_MD_keys_25 : decode b_MD_keys 25 = .ok (.aload_n 0, 1) := by decide +kernel
theorem d_MD_keys_26 : decode b_MD_keys 26 = .ok (.iconst 0, 1) := by decide +kernel
theorem d_MD_keys_27 : decode b_MD_keys 27 = .ok (.putfield 156, 3) := by decide +kernel
theorem d_MD_keys_30 : decode b_MD_keys 30 = .ok (.iconst 0, 1) := by decide +kernel
theorem d_MD_keys_31 : decode b_MD_keys 31 = .ok (.istore_n 1, 1) := by decide +kernel
theorem d_MD_keys_32 : decode b_MD_keys 32 = .ok (.iload_n 1, 1) := by decide +kernel
theorem d_MD_keys_33 : decode b_MD_keys 33 = .ok (.bipush 32, 2) := by decide +kernel
theorem d_MD_keys_35 : decode b_MD_keys 35 = .ok (.if_icmp .ge 161, 3) := by decide +kernel
theorem d_MD_keys_38 : decode b_MD_keys 38 = .ok (.sipush (-2000), 3) := by decide +kernel
theorem d_MD_keys_41 : decode b_MD_keys 41 = .ok (.istore_n 2, 1) := by decide +kernel
theorem d_MD_keys_42 : decode b_MD_keys 42 = .ok (.bipush 16, 2) := by decide +kernel
theorem d_MD_keys_44 : decode b_MD_keys 44 = .ok (.iload_n 1, 1) := by decide +kernel
theorem d_MD_keys_45 : decode b_MD_keys 45 = .ok (.imul, 1) := by decide +kernel
theorem d_MD_keys_46 : decode b_MD_keys 46 = .ok (.istore_n 3, 1) := by decide +kernel
theorem d_MD_keys_47 : decode b_MD_keys 47 = .ok (.iload_n 3, 1) := by decide +kernel
theorem d_MD_keys_48 : decode b_MD_keys 48 = .ok (.bipush 16, 2) := by decide +kernel
theorem d_MD_keys_50 : decode b_MD_keys 50 = .ok (.iload_n 1, 1) := by decide +kernel
theorem d_MD_keys_51 : decode b_MD_keys 51 = .ok (.imul, 1) := by decide +kernel
theorem d_MD_keys_52 : decode b_MD_keys 52 = .ok (.bipush 16, 2) := by decide +kernel
theorem d_MD_keys_54 : decode b_MD_keys 54 = .ok (.iadd, 1) := by decide +kernel
theorem d_MD_keys_55 : decode b_MD_keys 55 = .ok (.if_icmp .ge 38, 3) := by decide +kernel
theorem d_MD_keys_58 : decode b_MD_keys 58 = .ok (.aload_n 0, 1) := by decide +kernel
theorem d_MD_keys_59 : decode b_MD_keys 59 = .ok (.iload_n 3, 1) := by decide +kernel
theorem d_MD_keys_60 : decode b_MD_keys 60 = .ok (.invokevirtual 159, 3) := by decide +kernel
theorem d_MD_keys_63 : decode b_MD_keys 63 = .ok (.ifCond .eq 22, 3) := by decide +kernel
theorem d_MD_keys_66 : decode b_MD_keys 66 = .ok (.aload_n 0, 1) := by decide +kernel
theorem d_MD_keys_67 : decode b_MD_keys 67 = .ok (.getfield 17, 3) := by decide +kernel
theorem d_MD_keys_70 : decode b_MD_keys 70 = .ok (.iload_n 3, 1) := by decide +kernel
theorem d_MD_keys_71 : decode b_MD_keys 71 = .ok (.iaload, 1) := by decide +kernel
theorem d_MD_keys_72 : decode b_MD_keys 72 = .ok (.iload_n 2, 1) := by decide +kernel
theorem d_MD_keys_73 : decode b_MD_keys 73 = .ok (.if_icmp .le 12, 3) := by decide +kernel
theorem d_MD_keys_76 : decode b_MD_keys 76 = .ok (.aload_n 0, 1) := by decide +kernel
theorem d_MD_keys_77 : decode b_MD_keys 77 = .ok (.getfield 17, 3) := by decide +kernel
theorem d_MD_keys_80 : decode b_MD_keys 80 = .ok (.iload_n 3, 1) := by decide +kernel
theorem d_MD_keys_81 : decode b_MD_keys 81 = .ok (.iaload, 1) := by decide +kernel
theorem d_MD_keys_82 : decode b_MD_keys 82 = .ok (.goto 4, 3) := by decide +kernel
theorem d_MD_keys_85 : decode b_MD_keys 85 = .ok (.iload_n 2, 1) := by decide +kernel
theorem d_MD_keys_86 : decode b_MD_keys 86 = .ok (.istore_n 2, 1) := by decide +kernel
theorem d_MD_keys_87 : decode b_MD_keys 87 = .ok (.iinc 3 1, 3) := by decide +kernel
theorem d_MD_keys_90 : decode b_MD_keys 90 = .ok (.goto (-43), 3) := by decide +kernel
theorem d_MD_keys_93 : decode b_MD_keys 93 = .ok (.iload_n 2, 1) := by decide +kernel
theorem d_MD_keys_94 : decode b_MD_keys 94 = .ok (.sipush (-2000), 3) := by decide +kernel
theorem d_MD_keys_97 : decode b_MD_keys 97 = .ok (.if_icmp .le 93, 3) := by decide +kernel
theorem d_MD_keys_100 : decode b_MD_keys 100 = .ok (.aload_n 0, 1) := by decide +kernel
theorem d_MD_keys_101 : decode b_MD_keys 101 = .ok (.dup, 1) := by decide +kernel
theorem d_MD_keys_102 : decode b_MD_keys 102 = .ok (.getfield 153, 3) := by decide +kernel
theorem d_MD_keys_105 : decode b_MD_keys 105 = .ok (.iconst 1, 1) := by decide +kernel
theorem d_MD_keys_106 : decode b_MD_keys 106 = .ok (.iadd, 1) := by decide +kernel
theorem d_MD_keys_107 : decode b_MD_keys 107 = .ok (.putfield 153, 3) := by decide +kernel
theorem d_MD_keys_110 : decode b_MD_keys 110 = .ok (.aload_n 0, 1) := by decide +kernel
theorem d_MD_keys_111 : decode b_MD_keys 111 = .ok (.getfield 76, 3) := by decide +kernel
theorem d_MD_keys_114 : decode b_MD_keys 114 = .ok (.aload_n 0, 1) := by decide +kernel
theorem d_MD_keys_115 : decode b_MD_keys 115 = .ok (.getfield 26, 3) := by decide +kernel
theorem d_MD_keys_118 : decode b_MD_keys 118 = .ok (.if_icmp .ne 31, 3) := by decide +kernel
theorem d_MD_keys_121 : decode b_MD_keys 121 = .ok (.iload_n 2, 1) := by decide +kernel
theorem d_MD_keys_122 : decode b_MD_keys 122 = .ok (.aload_n 0, 1) := by decide +kernel
theorem d_MD_keys_123 : decode b_MD_keys 123 = .ok (.getfield 35, 3) := by decide +kernel
theorem d_MD_keys_126 : decode b_MD_keys 126 = .ok (.aload_n 0, 1) := by decide +kernel
theorem d_MD_keys_127 : decode b_MD_keys 127 = .ok (.getfield 26, 3) := by decide +kernel
theorem d_MD_keys_130 : decode b_MD_keys 130 = .ok (.iconst 1, 1) := by decide +kernel
theorem d_MD_keys_131 : decode b_MD_keys 131 = .ok (.isub, 1) := by decide +kernel
theorem d_MD_keys_132 : decode b_MD_keys 132 = .ok (.iaload, 1) := by decide +kernel
theorem d_MD_keys_133 : decode b_MD_keys 133 = .ok (.if_icmp .gt 16, 3) := by decide +kernel
theorem d_MD_keys_136 : decode b_MD_keys 136 = .ok (.aload_n 0, 1) := by decide +kernel
theorem d_MD_keys_137 : decode b_MD_keys 137 = .ok (.dup, 1) := by decide +kernel
theorem d_MD_keys_138 : decode b_MD_keys 138 = .ok (.getfield 156, 3) := by decide +kernel
theorem d_MD_keys_141 : decode b_MD_keys 141 = .ok (.iconst 1, 1) := by decide +kernel
theorem d_MD_keys_142 : decode b_MD_keys 142 = .ok (.iadd, 1) := by decide +kernel
theorem d_MD_keys_143 : decode b_MD_keys 143 = .ok (.putfield 156, 3) := by decide +kernel
theorem d_MD_keys_146 : decode b_MD_keys 146 = .ok (.goto 44, 3) := by decide +kernel
theorem d_MD_keys_149 : decode b_MD_keys 149 = .ok (.bipush 16, 2) := by decide +kernel
theorem d_MD_keys_151 : decode b_MD_keys 151 = .ok (.iload_n 1, 1) := by decide +kernel
theorem d_MD_keys_152 : decode b_MD_keys 152 = .ok (.imul, 1) := by decide +kernel
theorem d_MD_keys_153 : decode b_MD_keys 153 = .ok (.istore_n 3, 1) := by decide +kernel
theorem d_MD_keys_154 : decode b_MD_keys 154 = .ok (.iload_n 3, 1) := by decide +kernel
theorem d_MD_keys_155 : decode b_MD_keys 155 = .ok (.bipush 16, 2) := by decide +kernel
theorem d_MD_keys_157 : decode b_MD_keys 157 = .ok (.iload_n 1, 1) := by decide +kernel
theorem d_MD_keys_158 : decode b_MD_keys 158 = .ok (.imul, 1) := by decide +kernel
theorem d_MD_keys_159 : decode b_MD_keys 159 = .ok (.bipush 16, 2) := by decide +kernel
theorem d_MD_keys_161 : decode b_MD_keys 161 = .ok (.iadd, 1) := by decide +kernel
theorem d_MD_keys_162 : decode b_MD_keys 162 = .ok (.if_icmp .ge 28, 3) := by decide +kernel
theorem d_MD_keys_165 : decode b_MD_keys 165 = .ok (.aload_n 0, 1) := by decide +kernel
theorem d_MD_keys_166 : decode b_MD_keys 166 = .ok (.iload_n 3, 1) := by decide +kernel
theorem d_MD_keys_167 : decode b_MD_keys 167 = .ok (.invokevirtual 70, 3) := by decide +kernel
theorem d_MD_keys_170 : decode b_MD_keys 170 = .ok (.ifCond .eq 14, 3) := by decide +kernel
theorem d_MD_keys_173 : decode b_MD_keys 173 = .ok (.aload_n 0, 1) := by decide +kernel
theorem d_MD_keys_174 : decode b_MD_keys 174 = .ok (.iload_n 3, 1) := by decide +kernel
theorem d_MD_keys_175 : decode b_MD_keys 175 = .ok (.aload_n 0, 1) := by decide +kernel
theorem d_MD_keys_176 : decode b_MD_keys 176 = .ok (.getfield 17, 3) := by decide +kernel
theorem d_MD_keys_179 : decode b_MD_keys 179 = .ok (.iload_n 3, 1) := by decide +kernel
theorem d_MD_keys_180 : decode b_MD_keys 180 = .ok (.iaload, 1) := by decide +kernel
theorem d_MD_keys_181 : decode b_MD_keys 181 = .ok (.invokevirtual 104, 3) := by decide +kernel
theorem d_MD_keys_184 : decode b_MD_keys 184 = .ok (.iinc 3 1, 3) := by decide +kernel
theorem d_MD_keys_187 : decode b_MD_keys 187 = .ok (.goto (-33), 3) := by decide +kernel
theorem d_MD_keys_190 : decode b_MD_keys 190 = .ok (.iinc 1 1, 3) := by decide +kernel
theorem d_MD_keys_193 : decode b_MD_keys 193 = .ok (.goto (-161), 3) := by decide +kernel
theorem d_MD_keys_196 : decode b_MD_keys 196 = .ok (.aload_n 0, 1) := by decide +kernel
theorem d_MD_keys_197 : decode b_MD_keys 197 = .ok (.getfield 76, 3) := by decide +kernel
theorem d_MD_keys_200 : decode b_MD_keys 200 = .ok (.ireturn, 1) := by decide +kernel
theorem d_MD_anew_0 : decode b_MD_anew 0 = .ok (.aload_n 0, 1) := by decide +kernel
theorem d_MD_anew_1 : decode b_MD_anew 1 = .ok (.iconst 0, 1) := by decide +kernel
theorem d_MD_anew_2 : decode b_MD_anew 2 = .ok (.putfield 1, 3) := by decide +kernel
theorem d_MD_anew_5 : decode b_MD_anew 5 = .ok (.iload_n 1, 1) := by decide +kernel
theorem d_MD_anew_6 : decode b_MD_anew 6 = .ok (.iconst 0, 1) := by decide +kernel
theorem d_MD_anew_7 : decode b_MD_anew 7 = .ok (.bipush 20, 2) := by decide +kernel
theorem d_MD_anew_9 : decode b_MD_anew 9 = .ok (.invokestatic 51, 3) := by decide +kernel
theorem d_MD_anew_12 : decode b_MD_anew 12 = .ok (.ifCond .eq 14, 3) := by decide +kernel
theorem d_MD_anew_15 : decode b_MD_anew 15 = .ok (.iload_n 2, 1) := by decide +kernel
theorem d_MD_anew_16 : decode b_MD_anew 16 = .ok (.bipush (-9), 2) := by decide +kernel
theorem d_MD_anew_18 : decode b_MD_anew 18 = .ok (.bipush 9, 2) := by decide +kernel
theorem d_MD_anew_20 : decode b_MD_anew 20 = .ok (.invokestatic 51, 3) := by decide +kernel
theorem d_MD_anew_23 : decode b_MD_anew 23 = .ok (.ifCond .ne 5, 3) := by decide +kernel
theorem d_MD_anew_26 : decode b_MD_anew 26 = .ok (.iconst (-1), 1) := by decide +kernel
theorem d_MD_anew_27 : decode b_MD_anew 27 = .ok (.ireturn, 1) := by decide +kernel
theorem d_MD_anew_28 : decode b_MD_anew 28 = .ok (.aload_n 0, 1) := by decide +kernel
theorem d_MD_anew_29 : decode b_MD_anew 29 = .ok (.getfield 135, 3) := by decide +kernel
theorem d_MD_anew_32 : decode b_MD_anew 32 = .ok (.ifCond .ne 6, 3) := by decide +kernel
theorem d_MD_anew_35 : decode b_MD_anew 35 = .ok (.bipush (-2), 2) := by decide +kernel
theorem d_MD_anew_37 : decode b_MD_anew 37 = .ok (.ireturn, 1) := by decide +kernel
theorem d_MD_anew_38 : decode b_MD_anew 38 = .ok (.iload_n 1, 1) := by decide +kernel
theorem d_MD_anew_39 : decode b_MD_anew 39 = .ok (.aload_n 0, 1) := by decide +kernel
theorem d_MD_anew_40 : decode b_MD_anew 40 = .ok (.getfield 76, 3) := by decide +kernel
theorem d_MD_anew_43 : decode b_MD_anew 43 = .ok (.if_icmp .ge 7, 3) := by decide +kernel
theorem d_MD_anew_46 : decode b_MD_anew 46 = .ok (.iload_n 1, 1) := by decide +kernel
theorem d_MD_anew_47 : decode b_MD_anew 47 = .ok (.goto 7, 3) := by decide +kernel
theorem d_MD_anew_50 : decode b_MD_anew 50 = .ok (.aload_n 0, 1) := by decide +kernel
theorem d_MD_anew_51 : decode b_MD_anew 51 = .ok (.getfield 76, 3) := by decide +kernel
theorem d_MD_anew_54 : decode b_MD_anew 54 = .ok (.istore_n 3, 1) := by decide +kernel
theorem d_MD_anew_55 : decode b_MD_anew 55 = .ok (.iconst 0, 1) := by decide +kernel
theorem d_MD_anew_56 : decode b_MD_anew 56 = .ok (.istore 4, 2) := by decide +kernel
theorem d_MD_anew_58 : decode b_MD_anew 58 = .ok (.iload 4, 2) := by decide +kernel
theorem d_MD_anew_60 : decode b_MD_anew 60 = .ok (.iload_n 3, 1) := by decide +kernel
theorem d_MD_anew_61 : decode b_MD_anew 61 = .ok (.if_icmp .ge 50, 3) := by decide +kernel
theorem d_MD_anew_64 : decode b_MD_anew 64 = .ok (.aload_n 0, 1) := by decide +kernel
theorem d_MD_anew_65 : decode b_MD_anew 65 = .ok (.getfield 35, 3) := by decide +kernel
theorem d_MD_anew_68 : decode b_MD_anew 68 = .ok (.iload 4, 2) := by decide +kernel
theorem d_MD_anew_70 : decode b_MD_anew 70 = .ok (.aload_n 0, 1) := by decide +kernel
theorem d_MD_anew_71 : decode b_MD_anew 71 = .ok (.getfield 35, 3) := by decide +kernel
theorem d_MD_anew_74 : decode b_MD_anew 74 = .ok (.iload 4, 2) := by decide +kernel
theorem d_MD_anew_76 : decode b_MD_anew 76 = .ok (.iaload, 1) := by decide +kernel
theorem d_MD_anew_77 : decode b_MD_anew 77 = .ok (.iload_n 2, 1) := by decide +kernel
theorem d_MD_anew_78 : decode b_MD_anew 78 = .ok (.aload_n 0, 1) := by decide +kernel
theorem d_MD_anew_79 : decode b_MD_anew 79 = .ok (.getfield 131, 3) := by decide +kernel
theorem d_MD_anew_82 : decode b_MD_anew 82 = .ok (.ifCond .eq 13, 3) := by decide +kernel
theorem d_MD_anew_85 : decode b_MD_anew 85 = .ok (.aload_n 0, 1) := by decide +kernel
theorem d_MD_anew_86 : decode b_MD_anew 86 = .ok (.getfield 38, 3) := by decide +kernel
theorem d_MD_anew_89 : decode b_MD_anew 89 = .ok (.iload 4, 2) := by decide +kernel
theorem d_MD_anew_91 : decode b_MD_anew 91 = .ok (.iaload, 1) := by decide +kernel
theorem d_MD_anew_92 : decode b_MD_anew 92 = .ok (.goto 10, 3) := by decide +kernel
theorem d_MD_anew_95 : decode b_MD_anew 95 = .ok (.aload_n 0, 1) := by decide +kernel
theorem d_MD_anew_96 : decode b_MD_anew 96 = .ok (.getfield 41, 3) := by decide +kernel
theorem d_MD_anew_99 : decode b_MD_anew 99 = .ok (.iload 4, 2) := by decide +kernel
theorem d_MD_anew_101 : decode b_MD_anew 101 = .ok (.iaload, 1) := by decide +kernel
theorem d_MD_anew_102 : decode b_MD_anew 102 = .ok (.imul, 1) := by decide +kernel
theorem d_MD_anew_103 : decode b_MD_anew 103 = .ok (.iadd, 1) := by decide +kernel
theorem d_MD_anew_104 : decode b_MD_anew 104 = .ok (.iastore, 1) := by decide +kernel
theorem d_MD_anew_105 : decode b_MD_anew 105 = .ok (.iinc 4 1, 3) := by decide +kernel
theorem d_MD_anew_108 : decode b_MD_anew 108 = .ok (.goto (-50), 3) := by decide +kernel
theorem d_MD_anew_111 : decode b_MD_anew 111 = .ok (.iconst 1, 1) := by decide +kernel
theorem d_MD_anew_112 : decode b_MD_anew 112 = .ok (.istore 4, 2) := by decide +kernel
theorem d_MD_anew_114 : decode b_MD_anew 114 = .ok (.iload 4, 2) := by decide +kernel
theorem d_MD_anew_116 : decode b_MD_anew 116 = .ok (.iload_n 3, 1) := by decide +kernel
theorem d_MD_anew_117 : decode b_MD_anew 117 = .ok (.if_icmp .ge 107, 3) := by decide +kernel
theorem d_MD_anew_120 : decode b_MD_anew 120 = .ok (.aload_n 0, 1) := by decide +kernel
theorem d_MD_anew_121 : decode b_MD_anew 121 = .ok (.iload 4, 2) := by decide +kernel
theorem d_MD_anew_123 : decode b_MD_anew 123 = .ok (.bipush 20, 2) := by decide +kernel
theorem d_MD_anew_125 : decode b_MD_anew 125 = .ok (.invokevirtual 79, 3) := by decide +kernel
theorem d_MD_anew_128 : decode b_MD_anew 128 = .ok (.iload 4, 2) := by decide +kernel
theorem d_MD_anew_130 : decode b_MD_anew 130 = .ok (.istore 5, 2) := by decide +kernel
theorem d_MD_anew_132 : decode b_MD_anew 132 = .ok (.iload 5, 2) := by decide +kernel
theorem d_MD_anew_134 : decode b_MD_anew 134 = .ok (.ifCond .le 76, 3) := by decide +kernel
theorem d_MD_anew_137 : decode b_MD_anew 137 = .ok (.aload_n 0, 1) := by decide +kernel
theorem d_MD_anew_138 : decode b_MD_anew 138 = .ok (.getfield 35, 3) := by decide +kernel
theorem d_MD_anew_141 : decode b_MD_anew 141 = .ok (.iload 5, 2) := by decide +kernel
theorem d_MD_anew_143 : decode b_MD_anew 143 = .ok (.iconst 1, 1) := by decide +kernel
theorem d_MD_anew_144 : decode b_MD_anew 144 = .ok (.isub, 1) := by decide +kernel
theorem d_MD_anew_145 : decode b_MD_anew 145 = .ok (.iaload, 1) := by decide +kernel
theorem d_MD_anew_146 : decode b_MD_anew 146 = .ok (.aload_n 0, 1) := by decide +kernel
theorem d_MD_anew_147 : decode b_MD_anew 147 = .ok (.getfield 35, 3) := by decide +kernel
theorem d_MD_anew_150 : decode b_MD_anew 150 = .ok (.bipush 20, 2) := by decide +kernel
theorem d_MD_anew_152 : decode b_MD_anew 152 = .ok (.iaload, 1) := by decide +kernel
theorem d_MD_anew_153 : decode b_MD_anew 153 = .ok (.if_icmp .lt 41, 3) := by decide +kernel
theorem d_MD_anew_156 : decode b_MD_anew 156 = .ok (.aload_n 0, 1) := by decide +kernel
theorem d_MD_anew_157 : decode b_MD_anew 157 = .ok (.getfield 35, 3) := by decide +kernel
theorem d_MD_anew_160 : decode b_MD_anew 160 = .ok (.iload 5, 2) := by decide +kernel
theorem d_MD_anew_162 : decode b_MD_anew 162 = .ok (.iconst 1, 1) := by decide +kernel
theorem d_MD_anew_163 : decode b_MD_anew 163 = .ok (.isub, 1) := by decide +kernel
theorem d_MD_anew_164 : decode b_MD_anew 164 = .ok (.iaload, 1) := by decide +kernel
theorem d_MD_anew_165 : decode b_MD_anew 165 = .ok (.aload_n 0, 1) := by decide +kernel
theorem d_MD_anew_166 : decode b_MD_anew 166 = .ok (.getfield 35, 3) := by decide +kernel
theorem d_MD_anew_169 : decode b_MD_anew 169 = .ok (.bipush 20, 2) := by decide +kernel
theorem d_MD_anew_171 : decode b_MD_anew 171 = .ok (.iaload, 1) := by decide +kernel
theorem d_MD_anew_172 : decode b_MD_anew 172 = .ok (.if_icmp .ne 38, 3) := by decide +kernel
theorem d_MD_anew_175 : decode b_MD_anew 175 = .ok (.aload_n 0, 1) := by decide +kernel
theorem d_MD_anew_176 : decode b_MD_anew 176 = .ok (.getfield 32, 3) := by decide +kernel
theorem d_MD_anew_179 : decode b_MD_anew 179 = .ok (.iload 5, 2) := by decide +kernel
theorem d_MD_anew_181 : decode b_MD_anew 181 = .ok (.iconst 1, 1) := by decide +kernel
theorem d_MD_anew_182 : decode b_MD_anew 182 = .ok (.isub, 1) := by decide +kernel
theorem d_MD_anew_183 : decode b_MD_anew 183 = .ok (.iaload, 1) := by decide +kernel
theorem d_MD_anew_184 : decode b_MD_anew 184 = .ok (.aload_n 0, 1) := by decide +kernel
theorem d_MD_anew_185 : decode b_MD_anew 185 = .ok (.getfield 32, 3) := by decide +kernel
theorem d_MD_anew_188 : decode b_MD_anew 188 = .ok (.bipush 20, 2) := by decide +kernel
theorem d_MD_anew_190 : decode b_MD_anew 190 = .ok (.iaload, 1) := by decide +kernel
theorem d_MD_anew_191 : decode b_MD_anew 191 = .ok (.if_icmp .le 19, 3) := by decide +kernel
theorem d_MD_anew_194 : decode b_MD_anew 194 = .ok (.aload_n 0, 1) := by decide +kernel
theorem d_MD_anew_195 : decode b_MD_anew 195 = .ok (.iload 5, 2) := by decide +kernel
theorem d_MD_anew_197 : decode b_MD_anew 197 = .ok (.iconst 1, 1) := by decide +kernel
theorem d_MD_anew_198 : decode b_MD_anew 198 = .ok (.isub, 1) := by decide +kernel
theorem d_MD_anew_199 : decode b_MD_anew 199 = .ok (.iload 5, 2) := by decide +kernel
theorem d_MD_anew_201 : decode b_MD_anew 201 = .ok (.invokevirtual 79, 3) := by decide +kernel
theorem d_MD_anew_204 : decode b_MD_anew 204 = .ok (.iinc 5 (-1), 3) := by decide +kernel
theorem d_MD_anew_207 : decode b_MD_anew 207 = .ok (.goto (-75), 3) := by decide +kernel
theorem d_MD_anew_210 : decode b_MD_anew 210 = .ok (.aload_n 0, 1) := by decide +kernel
theorem d_MD_anew_211 : decode b_MD_anew 211 = .ok (.bipush 20, 2) := by decide +kernel
theorem d_MD_anew_213 : decode b_MD_anew 213 = .ok (.iload 5, 2) := by decide +kernel
theorem d_MD_anew_215 : decode b_MD_anew 215 = .ok (.invokevirtual 79, 3) := by decide +kernel
theorem d_MD_anew_218 : decode b_MD_anew 218 = .ok (.iinc 4 1, 3) := by decide +kernel
theorem d_MD_anew_221 : decode b_MD_anew 221 = .ok (.goto (-107), 3) := by decide +kernel
theorem d_MD_anew_224 : decode b_MD_anew 224 = .ok (.iload_n 3, 1) := by decide +kernel
theorem d_MD_anew_225 : decode b_MD_anew 225 = .ok (.ireturn, 1) := by decide +kernel
theorem d_MD_answer_0 : decode b_MD_answer 0 = .ok (.aload_n 0, 1) := by decide +kernel
theorem d_MD_answer_1 : decode b_MD_answer 1 = .ok (.iconst 0, 1) := by decide +kernel
theorem d_MD_answer_2 : decode b_MD_answer 2 = .ok (.putfield 1, 3) := by decide +kernel
theorem d_MD_answer_5 : decode b_MD_answer 5 = .ok (.iload_n 1, 1) := by decide +kernel
theorem d_MD_answer_6 : decode b_MD_answer 6 = .ok (.iconst 0, 1) := by decide +kernel
theorem d_MD_answer_7 : decode b_MD_answer 7 = .ok (.aload_n 0, 1) := by decide +kernel
theorem d_MD_answer_8 : decode b_MD_answer 8 = .ok (.getfield 76, 3) := by decide +kernel
theorem d_MD_answer_11 : decode b_MD_answer 11 = .ok (.iconst 1, 1) := by decide +kernel
theorem d_MD_answer_12 : decode b_MD_answer 12 = .ok (.isub, 1) := by decide +kernel
theorem d_MD_answer_13 : decode b_MD_answer 13 = .ok (.invokestatic 51, 3) := by decide +kernel
theorem d_MD_answer_16 : decode b_MD_answer 16 = .ok (.ifCond .eq 12, 3) := by decide +kernel
theorem d_MD_answer_19 : decode b_MD_answer 19 = .ok (.iload_n 2, 1) := by decide +kernel
theorem d_MD_answer_20 : decode b_MD_answer 20 = .ok (.iconst 0, 1) := by decide +kernel
theorem d_MD_answer_21 : decode b_MD_answer 21 = .ok (.iconst 3, 1) := by decide +kernel
theorem d_MD_answer_22 : decode b_MD_answer 22 = .ok (.invokestatic 51, 3) := by decide +kernel
theorem d_MD_answer_25 : decode b_MD_answer 25 = .ok (.ifCond .ne 5, 3) := by decide +kernel
theorem d_MD_answer_28 : decode b_MD_answer 28 = .ok (.iconst (-1), 1) := by decide +kernel
theorem d_MD_answer_29 : decode b_MD_answer 29 = .ok (.ireturn, 1) := by decide +kernel
theorem d_MD_answer_30 : decode b_MD_answer 30 = .ok (.iload_n 2, 1) := by decide +kernel
theorem d_MD_answer_31 : decode b_MD_answer 31 = .ok (.ifCond .ne 12, 3) := by decide +kernel
theorem d_MD_answer_34 : decode b_MD_answer 34 = .ok (.aload_n 0, 1) := by decide +kernel
theorem d_MD_answer_35 : decode b_MD_answer 35 = .ok (.getfield 32, 3) := by decide +kernel
theorem d_MD_answer_38 : decode b_MD_answer 38 = .ok (.iload_n 1, 1) := by decide +kernel
theorem d_MD_answer_39 : decode b_MD_answer 39 = .ok (.iaload, 1) := by decide +kernel
theorem d_MD_answer_40 : decode b_MD_answer 40 = .ok (.goto 37, 3) := by decide +kernel
theorem d_MD_answer_43 : decode b_MD_answer 43 = .ok (.iload_n 2, 1) := by decide +kernel
theorem d_MD_answer_44 : decode b_MD_answer 44 = .ok (.iconst 1, 1) := by decide +kernel
theorem d_MD_answer_45 : decode b_MD_answer 45 = .ok (.if_icmp .ne 12, 3) := by decide +kernel
theorem d_MD_answer_48 : decode b_MD_answer 48 = .ok (.aload_n 0, 1) := by decide +kernel
theorem d_MD_answer_49 : decode b_MD_answer 49 = .ok (.getfield 35, 3) := by decide +kernel
theorem d_MD_answer_52 : decode b_MD_answer 52 = .ok (.iload_n 1, 1) := by decide +kernel
theorem d_MD_answer_53 : decode b_MD_answer 53 = .ok (.iaload, 1) := by decide +kernel
theorem d_MD_answer_54 : decode b_MD_answer 54 = .ok (.goto 23, 3) := by decide +kernel
theorem d_MD_answer_57 : decode b_MD_answer 57 = .ok (.iload_n 2, 1) := by decide +kernel
theorem d_MD_answer_58 : decode b_MD_answer 58 = .ok (.iconst 2, 1) := by decide +kernel
theorem d_MD_answer_59 : decode b_MD_answer 59 = .ok (.if_icmp .ne 12, 3) := by decide +kernel
theorem d_MD_answer_62 : decode b_MD_answer 62 = .ok (.aload_n 0, 1) := by decide +kernel
theorem d_MD_answer_63 : decode b_MD_answer 63 = .ok (.getfield 38, 3) := by decide +kernel
theorem d_MD_answer_66 : decode b_MD_answer 66 = .ok (.iload_n 1, 1) := by decide +kernel
theorem d_MD_answer_67 : decode b_MD_answer 67 = .ok (.iaload, 1) := by decide +kernel
theorem d_MD_answer_68 : decode b_MD_answer 68 = .ok (.goto 9, 3) := by decide +kernel
theorem d_MD_answer_71 : decode b_MD_answer 71 = .ok (.aload_n 0, 1) := by decide +kernel
theorem d_MD_answer_72 : decode b_MD_answer 72 = .ok (.getfield 41, 3) := by decide +kernel
theorem d_MD_answer_75 : decode b_MD_answer 75 = .ok (.iload_n 1, 1) := by decide +kernel
theorem d_MD_answer_76 : decode b_MD_answer 76 = .ok (.iaload, 1) := by decide +kernel
theorem d_MD_answer_77 : decode b_MD_answer 77 = .ok (.ireturn, 1) := by decide +kernel
theorem d_MD_told_0 : decode b_MD_told 0 = .ok (.aload_n 0, 1) := by decide +kernel
theorem d_MD_told_1 : decode b_MD_told 1 = .ok (.iconst 0, 1) := by decide +kernel
theorem d_MD_told_2 : decode b_MD_told 2 = .ok (.putfield 1, 3) := by decide +kernel
theorem d_MD_told_5 : decode b_MD_told 5 = .ok (.iload_n 1, 1) := by decide +kernel
theorem d_MD_told_6 : decode b_MD_told 6 = .ok (.tableswitch 95 0 8 #[50, 55, 60, 65, 70, 75, 80, 85, 90], 50) := by decide +kernel
theorem d_MD_told_56 : decode b_MD_told 56 = .ok (.aload_n 0, 1) := by decide +kernel
theorem d_MD_told_57 : decode b_MD_told 57 = .ok (.getfield 138, 3) := by decide +kernel
theorem d_MD_told_60 : decode b_MD_told 60 = .ok (.ireturn, 1) := by decide +kernel
theorem d_MD_told_61 : decode b_MD_told 61 = .ok (.aload_n 0, 1) := by decide +kernel
theorem d_MD_told_62 : decode b_MD_told 62 = .ok (.getfield 101, 3) := by decide +kernel
theorem d_MD_told_65 : decode b_MD_told 65 = .ok (.ireturn, 1) := by decide +kernel
theorem d_MD_told_66 : decode b_MD_told 66 = .ok (.aload_n 0, 1) := by decide +kernel
theorem d_MD_told_67 : decode b_MD_told 67 = .ok (.getfield 121, 3) := by decide +kernel
theorem d_MD_told_70 : decode b_MD_told 70 = .ok (.ireturn, 1) := by decide +kernel
theorem d_MD_told_71 : decode b_MD_told 71 = .ok (.aload_n 0, 1) := by decide +kernel
theorem d_MD_told_72 : decode b_MD_told 72 = .ok (.getfield 83, 3) := by decide +kernel
theorem d_MD_told_75 : decode b_MD_told 75 = .ok (.ireturn, 1) := by decide +kernel
theorem d_MD_told_76 : decode b_MD_told 76 = .ok (.aload_n 0, 1) := by decide +kernel
theorem d_MD_told_77 : decode b_MD_told 77 = .ok (.getfield 141, 3) := by decide +kernel
theorem d_MD_told_80 : decode b_MD_told 80 = .ok (.ireturn, 1) := by decide +kernel
theorem d_MD_told_81 : decode b_MD_told 81 = .ok (.aload_n 0, 1) := by decide +kernel
theorem d_MD_told_82 : decode b_MD_told 82 = .ok (.getfield 147, 3) := by decide +kernel
theorem d_MD_told_85 : decode b_MD_told 85 = .ok (.ireturn, 1) := by decide +kernel
theorem d_MD_told_86 : decode b_MD_told 86 = .ok (.aload_n 0, 1) := by decide +kernel
theorem d_MD_told_87 : decode b_MD_told 87 = .ok (.getfield 150, 3) := by decide +kernel
theorem d_MD_told_90 : decode b_MD_told 90 = .ok (.ireturn, 1) := by decide +kernel
theorem d_MD_told_91 : decode b_MD_told 91 = .ok (.aload_n 0, 1) := by decide +kernel
theorem d_MD_told_92 : decode b_MD_told 92 = .ok (.getfield 153, 3) := by decide +kernel
theorem d_MD_told_95 : decode b_MD_told 95 = .ok (.ireturn, 1) := by decide +kernel
theorem d_MD_told_96 : decode b_MD_told 96 = .ok (.aload_n 0, 1) := by decide +kernel
theorem d_MD_told_97 : decode b_MD_told 97 = .ok (.getfield 156, 3) := by decide +kernel
theorem d_MD_told_100 : decode b_MD_told 100 = .ok (.ireturn, 1) := by decide +kernel
theorem d_MD_told_101 : decode b_MD_told 101 = .ok (.iconst (-1), 1) := by decide +kernel
theorem d_MD_told_102 : decode b_MD_told 102 = .ok (.ireturn, 1) := by decide +kernel
