theorem d_MD_count_0 : decode b_MD_count 0 = .ok (.aload_n 0, 1) := by decide +kernel
theorem d_MD_count_1 : decode b_MD_count 1 = .ok (.iconst 0, 1) := by decide +kernel
theorem d_MD_count_2 : decode b_MD_count 2 = .ok (.putfield 1, 3) := by decide +kernel
theorem d_MD_count_5 : decode b_MD_count 5 = .ok (.iload_n 1, 1) := by decide +kernel
theorem d_MD_count_6 : decode b_MD_count 6 = .ok (.iconst 0, 1) := by decide +kernel
theorem d_MD_count_7 : decode b_MD_count 7 = .ok (.bipush 17, 2) := by decide +kernel
theorem d_MD_count_9 : decode b_MD_count 9 = .ok (.invokestatic 51, 3) := by decide +kernel
theorem d_MD_count_12 : decode b_MD_count 12 = .ok (.ifCond .ne 5, 3) := by decide +kernel
theorem d_MD_count_15 : decode b_MD_count 15 = .ok (.iconst (-1), 1) := by decide +kernel
theorem d_MD_count_16 : decode b_MD_count 16 = .ok (.ireturn, 1) := by decide +kernel
theorem d_MD_count_17 : decode b_MD_count 17 = .ok (.iload_n 1, 1) := by decide +kernel
theorem d_MD_count_18 : decode b_MD_count 18 = .ok (.bipush 12, 2) := by decide +kernel
theorem d_MD_count_20 : decode b_MD_count 20 = .ok (.if_icmp .ge 9, 3) := by decide +kernel
theorem d_MD_count_23 : decode b_MD_count 23 = .ok (.aload_n 0, 1) := by decide +kernel
theorem d_MD_count_24 : decode b_MD_count 24 = .ok (.iload_n 1, 1) := by decide +kernel
theorem d_MD_count_25 : decode b_MD_count 25 = .ok (.invokevirtual 55, 3) := by decide +kernel
theorem d_MD_count_28 : decode b_MD_count 28 = .ok (.ireturn, 1) := by decide +kernel
theorem d_MD_count_29 : decode b_MD_count 29 = .ok (.iload_n 1, 1) := by decide +kernel
theorem d_MD_count_30 : decode b_MD_count 30 = .ok (.bipush 15, 2) := by decide +kernel
theorem d_MD_count_32 : decode b_MD_count 32 = .ok (.if_icmp .ne 8, 3) := by decide +kernel
theorem d_MD_count_35 : decode b_MD_count 35 = .ok (.aload_n 0, 1) := by decide +kernel
theorem d_MD_count_36 : decode b_MD_count 36 = .ok (.getfield 26, 3) := by decide +kernel
theorem d_MD_count_39 : decode b_MD_count 39 = .ok (.ireturn, 1) := by decide +kernel
theorem d_MD_count_40 : decode b_MD_count 40 = .ok (.iload_n 1, 1) := by decide +kernel
theorem d_MD_count_41 : decode b_MD_count 41 = .ok (.bipush 16, 2) := by decide +kernel
theorem d_MD_count_43 : decode b_MD_count 43 = .ok (.if_icmp .ne 8, 3) := by decide +kernel
theorem d_MD_count_46 : decode b_MD_count 46 = .ok (.aload_n 0, 1) := by decide +kernel
theorem d_MD_count_47 : decode b_MD_count 47 = .ok (.getfield 76, 3) := by decide +kernel
theorem d_MD_count_50 : decode b_MD_count 50 = .ok (.ireturn, 1) := by decide +kernel
theorem d_MD_count_51 : decode b_MD_count 51 = .ok (.iconst 0, 1) := by decide +kernel
theorem d_MD_count_52 : decode b_MD_count 52 = .ok (.istore_n 2, 1) := by decide +kernel
theorem d_MD_count_53 : decode b_MD_count 53 = .ok (.iconst 0, 1) := by decide +kernel
theorem d_MD_count_54 : decode b_MD_count 54 = .ok (.istore_n 3, 1) := by decide +kernel
theorem d_MD_count_55 : decode b_MD_count 55 = .ok (.iload_n 3, 1) := by decide +kernel
theorem d_MD_count_56 : decode b_MD_count 56 = .ok (.bipush 12, 2) := by decide +kernel
theorem d_MD_count_58 : decode b_MD_count 58 = .ok (.if_icmp .ge 62, 3) := by decide +kernel
theorem d_MD_count_61 : decode b_MD_count 61 = .ok (.iload_n 1, 1) := by decide +kernel
theorem d_MD_count_62 : decode b_MD_count 62 = .ok (.bipush 15, 2) := by decide +kernel
theorem d_MD_count_64 : decode b_MD_count 64 = .ok (.if_icmp .ge 56, 3) := by decide +kernel
theorem d_MD_count_67 : decode b_MD_count 67 = .ok (.iload_n 1, 1) := by decide +kernel
theorem d_MD_count_68 : decode b_MD_count 68 = .ok (.bipush 12, 2) := by decide +kernel
theorem d_MD_count_70 : decode b_MD_count 70 = .ok (.if_icmp .ne 11, 3) := by decide +kernel
theorem d_MD_count_73 : decode b_MD_count 73 = .ok (.aload_n 0, 1) := by decide +kernel
theorem d_MD_count_74 : decode b_MD_count 74 = .ok (.iload_n 3, 1) := by decide +kernel
theorem d_MD_count_75 : decode b_MD_count 75 = .ok (.invokevirtual 66, 3) := by decide +kernel
theorem d_MD_count_78 : decode b_MD_count 78 = .ok (.goto 21, 3) := by decide +kernel
theorem d_MD_count_81 : decode b_MD_count 81 = .ok (.aload_n 0, 1) := by decide +kernel
theorem d_MD_count_82 : decode b_MD_count 82 = .ok (.getfield 20, 3) := by decide +kernel
theorem d_MD_count_85 : decode b_MD_count 85 = .ok (.iload_n 3, 1) := by decide +kernel
theorem d_MD_count_86 : decode b_MD_count 86 = .ok (.iaload, 1) := by decide +kernel
theorem d_MD_count_87 : decode b_MD_count 87 = .ok (.iload_n 1, 1) := by decide +kernel
theorem d_MD_count_88 : decode b_MD_count 88 = .ok (.bipush 11, 2) := by decide +kernel
theorem d_MD_count_90 : decode b_MD_count 90 = .ok (.isub, 1) := by decide +kernel
theorem d_MD_count_91 : decode b_MD_count 91 = .ok (.if_icmp .ne 7, 3) := by decide +kernel
theorem d_MD_count_94 : decode b_MD_count 94 = .ok (.iconst 1, 1) := by decide +kernel
theorem d_MD_count_95 : decode b_MD_count 95 = .ok (.goto 4, 3) := by decide +kernel
theorem d_MD_count_98 : decode b_MD_count 98 = .ok (.iconst 0, 1) := by decide +kernel
theorem d_MD_count_99 : decode b_MD_count 99 = .ok (.istore 4, 2) := by decide +kernel
theorem d_MD_count_101 : decode b_MD_count 101 = .ok (.iload 4, 2) := by decide +kernel
theorem d_MD_count_103 : decode b_MD_count 103 = .ok (.ifCond .eq 9, 3) := by decide +kernel
theorem d_MD_count_106 : decode b_MD_count 106 = .ok (.iload_n 2, 1) := by decide +kernel
theorem d_MD_count_107 : decode b_MD_count 107 = .ok (.iconst 1, 1) := by decide +kernel
theorem d_MD_count_108 : decode b_MD_count 108 = .ok (.iadd, 1) := by decide +kernel
theorem d_MD_count_109 : decode b_MD_count 109 = .ok (.goto 4, 3) := by decide +kernel
theorem d_MD_count_112 : decode b_MD_count 112 = .ok (.iload_n 2, 1) := by decide +kernel
theorem d_MD_count_113 : decode b_MD_count 113 = .ok (.istore_n 2, 1) := by decide +kernel
theorem d_MD_count_114 : decode b_MD_count 114 = .ok (.iinc 3 1, 3) := by decide +kernel
theorem d_MD_count_117 : decode b_MD_count 117 = .ok (.goto (-62), 3) := by decide +kernel
theorem d_MD_count_120 : decode b_MD_count 120 = .ok (.iconst 0, 1) := by decide +kernel
theorem d_MD_count_121 : decode b_MD_count 121 = .ok (.istore_n 3, 1) := by decide +kernel
theorem d_MD_count_122 : decode b_MD_count 122 = .ok (.iload_n 3, 1) := by decide +kernel
theorem d_MD_count_123 : decode b_MD_count 123 = .ok (.sipush 512, 3) := by decide +kernel
theorem d_MD_count_126 : decode b_MD_count 126 = .ok (.if_icmp .ge 31, 3) := by decide +kernel
theorem d_MD_count_129 : decode b_MD_count 129 = .ok (.iload_n 1, 1) := by decide +kernel
theorem d_MD_count_130 : decode b_MD_count 130 = .ok (.bipush 17, 2) := by decide +kernel
theorem d_MD_count_132 : decode b_MD_count 132 = .ok (.if_icmp .ne 25, 3) := by decide +kernel
theorem d_MD_count_135 : decode b_MD_count 135 = .ok (.aload_n 0, 1) := by decide +kernel
theorem d_MD_count_136 : decode b_MD_count 136 = .ok (.iload_n 3, 1) := by decide +kernel
theorem d_MD_count_137 : decode b_MD_count 137 = .ok (.invokevirtual 159, 3) := by decide +kernel
theorem d_MD_count_140 : decode b_MD_count 140 = .ok (.ifCond .eq 9, 3) := by decide +kernel
theorem d_MD_count_143 : decode b_MD_count 143 = .ok (.iload_n 2, 1) := by decide +kernel
theorem d_MD_count_144 : decode b_MD_count 144 = .ok (.iconst 1, 1) := by decide +kernel
theorem d_MD_count_145 : decode b_MD_count 145 = .ok (.iadd, 1) := by decide +kernel
theorem d_MD_count_146 : decode b_MD_count 146 = .ok (.goto 4, 3) := by decide +kernel
theorem d_MD_count_149 : decode b_MD_count 149 = .ok (.iload_n 2, 1) := by decide +kernel
theorem d_MD_count_150 : decode b_MD_count 150 = .ok (.istore_n 2, 1) := by decide +kernel
theorem d_MD_count_151 : decode b_MD_count 151 = .ok (.iinc 3 1, 3) := by decide +kernel
theorem d_MD_count_154 : decode b_MD_count 154 = .ok (.goto (-32), 3) := by decide +kernel
theorem d_MD_count_157 : decode b_MD_count 157 = .ok (.iload_n 2, 1) := by decide +kernel
theorem d_MD_count_158 : decode b_MD_count 158 = .ok (.ireturn, 1) := by decide +kernel
