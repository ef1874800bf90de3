theorem d_LA_law_0 : decode code 0 = .ok (.new 7, 3) := by decide +kernel
theorem d_LA_law_3 : decode code 3 = .ok (.dup, 1) := by decide +kernel
theorem d_LA_law_4 : decode code 4 = .ok (.invokespecial 9, 3) := by decide +kernel
theorem d_LA_law_7 : decode code 7 = .ok (.astore_n 1, 1) := by decide +kernel
theorem d_LA_law_8 : decode code 8 = .ok (.new 10, 3) := by decide +kernel
theorem d_LA_law_11 : decode code 11 = .ok (.dup, 1) := by decide +kernel
theorem d_LA_law_12 : decode code 12 = .ok (.invokespecial 12, 3) := by decide +kernel
theorem d_LA_law_15 : decode code 15 = .ok (.astore_n 2, 1) := by decide +kernel
theorem d_LA_law_16 : decode code 16 = .ok (.iconst 0, 1) := by decide +kernel
theorem d_LA_law_17 : decode code 17 = .ok (.istore_n 3, 1) := by decide +kernel
theorem d_LA_law_18 : decode code 18 = .ok (.iload_n 3, 1) := by decide +kernel
theorem d_LA_law_19 : decode code 19 = .ok (.aload_n 0, 1) := by decide +kernel
theorem d_LA_law_20 : decode code 20 = .ok (.arraylength, 1) := by decide +kernel
theorem d_LA_law_21 : decode code 21 = .ok (.iconst 4, 1) := by decide +kernel
theorem d_LA_law_22 : decode code 22 = .ok (.isub, 1) := by decide +kernel
theorem d_LA_law_23 : decode code 23 = .ok (.if_icmp .gt 553, 3) := by decide +kernel
theorem d_LA_law_26 : decode code 26 = .ok (.aload_n 0, 1) := by decide +kernel
theorem d_LA_law_27 : decode code 27 = .ok (.iload_n 3, 1) := by decide +kernel
theorem d_LA_law_28 : decode code 28 = .ok (.iaload, 1) := by decide +kernel
theorem d_LA_law_29 : decode code 29 = .ok (.bipush 15, 2) := by decide +kernel
theorem d_LA_law_31 : decode code 31 = .ok (.iand, 1) := by decide +kernel
theorem d_LA_law_32 : decode code 32 = .ok (.tableswitch 538 0 15 #[80, 123, 156, 189, 222, 265, 288, 321, 344, 367, 390, 413, 426, 459, 492, 515], 80) := by decide +kernel
theorem d_LA_law_112 : decode code 112 = .ok (.aload_n 1, 1) := by decide +kernel
theorem d_LA_law_113 : decode code 113 = .ok (.aload_n 0, 1) := by decide +kernel
theorem d_LA_law_114 : decode code 114 = .ok (.iload_n 3, 1) := by decide +kernel
theorem d_LA_law_115 : decode code 115 = .ok (.iconst 1, 1) := by decide +kernel
theorem d_LA_law_116 : decode code 116 = .ok (.iadd, 1) := by decide +kernel
theorem d_LA_law_117 : decode code 117 = .ok (.iaload, 1) := by decide +kernel
theorem d_LA_law_118 : decode code 118 = .ok (.aload_n 0, 1) := by decide +kernel
theorem d_LA_law_119 : decode code 119 = .ok (.iload_n 3, 1) := by decide +kernel
theorem d_LA_law_120 : decode code 120 = .ok (.iconst 2, 1) := by decide +kernel
theorem d_LA_law_121 : decode code 121 = .ok (.iadd, 1) := by decide +kernel
theorem d_LA_law_122 : decode code 122 = .ok (.iaload, 1) := by decide +kernel
theorem d_LA_law_123 : decode code 123 = .ok (.aload_n 0, 1) := by decide +kernel
theorem d_LA_law_124 : decode code 124 = .ok (.iload_n 3, 1) := by decide +kernel
theorem d_LA_law_125 : decode code 125 = .ok (.iconst 3, 1) := by decide +kernel
theorem d_LA_law_126 : decode code 126 = .ok (.iadd, 1) := by decide +kernel
theorem d_LA_law_127 : decode code 127 = .ok (.iaload, 1) := by decide +kernel
theorem d_LA_law_128 : decode code 128 = .ok (.invokevirtual 13, 3) := by decide +kernel
theorem d_LA_law_131 : decode code 131 = .ok (.aload_n 2, 1) := by decide +kernel
theorem d_LA_law_132 : decode code 132 = .ok (.aload_n 0, 1) := by decide +kernel
theorem d_LA_law_133 : decode code 133 = .ok (.iload_n 3, 1) := by decide +kernel
theorem d_LA_law_134 : decode code 134 = .ok (.iconst 1, 1) := by decide +kernel
theorem d_LA_law_135 : decode code 135 = .ok (.iadd, 1) := by decide +kernel
theorem d_LA_law_136 : decode code 136 = .ok (.iaload, 1) := by decide +kernel
theorem d_LA_law_137 : decode code 137 = .ok (.aload_n 0, 1) := by decide +kernel
theorem d_LA_law_138 : decode code 138 = .ok (.iload_n 3, 1) := by decide +kernel
theorem d_LA_law_139 : decode code 139 = .ok (.iconst 2, 1) := by decide +kernel
theorem d_LA_law_140 : decode code 140 = .ok (.iadd, 1) := by decide +kernel
theorem d_LA_law_141 : decode code 141 = .ok (.iaload, 1) := by decide +kernel
theorem d_LA_law_142 : decode code 142 = .ok (.aload_n 0, 1) := by decide +kernel
theorem d_LA_law_143 : decode code 143 = .ok (.iload_n 3, 1) := by decide +kernel
theorem d_LA_law_144 : decode code 144 = .ok (.iconst 3, 1) := by decide +kernel
theorem d_LA_law_145 : decode code 145 = .ok (.iadd, 1) := by decide +kernel
theorem d_LA_law_146 : decode code 146 = .ok (.iaload, 1) := by decide +kernel
theorem d_LA_law_147 : decode code 147 = .ok (.invokevirtual 17, 3) := by decide +kernel
theorem d_LA_law_150 : decode code 150 = .ok (.if_icmp .eq 420, 3) := by decide +kernel
theorem d_LA_law_153 : decode code 153 = .ok (.iconst 0, 1) := by decide +kernel
theorem d_LA_law_154 : decode code 154 = .ok (.ireturn, 1) := by decide +kernel
theorem d_LA_law_155 : decode code 155 = .ok (.aload_n 1, 1) := by decide +kernel
theorem d_LA_law_156 : decode code 156 = .ok (.aload_n 0, 1) := by decide +kernel
theorem d_LA_law_157 : decode code 157 = .ok (.iload_n 3, 1) := by decide +kernel
theorem d_LA_law_158 : decode code 158 = .ok (.iconst 1, 1) := by decide +kernel
theorem d_LA_law_159 : decode code 159 = .ok (.iadd, 1) := by decide +kernel
theorem d_LA_law_160 : decode code 160 = .ok (.iaload, 1) := by decide +kernel
theorem d_LA_law_161 : decode code 161 = .ok (.aload_n 0, 1) := by decide +kernel
theorem d_LA_law_162 : decode code 162 = .ok (.iload_n 3, 1) := by decide +kernel
theorem d_LA_law_163 : decode code 163 = .ok (.iconst 2, 1) := by decide +kernel
theorem d_LA_law_164 : decode code 164 = .ok (.iadd, 1) := by decide +kernel
theorem d_LA_law_165 : decode code 165 = .ok (.iaload, 1) := by decide +kernel
theorem d_LA_law_166 : decode code 166 = .ok (.invokevirtual 18, 3) := by decide +kernel
theorem d_LA_law_169 : decode code 169 = .ok (.aload_n 2, 1) := by decide +kernel
theorem d_LA_law_170 : decode code 170 = .ok (.aload_n 0, 1) := by decide +kernel
theorem d_LA_law_171 : decode code 171 = .ok (.iload_n 3, 1) := by decide +kernel
theorem d_LA_law_172 : decode code 172 = .ok (.iconst 1, 1) := by decide +kernel
theorem d_LA_law_173 : decode code 173 = .ok (.iadd, 1) := by decide +kernel
theorem d_LA_law_174 : decode code 174 = .ok (.iaload, 1) := by decide +kernel
theorem d_LA_law_175 : decode code 175 = .ok (.aload_n 0, 1) := by decide +kernel
theorem d_LA_law_176 : decode code 176 = .ok (.iload_n 3, 1) := by decide +kernel
theorem d_LA_law_177 : decode code 177 = .ok (.iconst 2, 1) := by decide +kernel
theorem d_LA_law_178 : decode code 178 = .ok (.iadd, 1) := by decide +kernel
theorem d_LA_law_179 : decode code 179 = .ok (.iaload, 1) := by decide +kernel
theorem d_LA_law_180 : decode code 180 = .ok (.invokevirtual 22, 3) := by decide +kernel
theorem d_LA_law_183 : decode code 183 = .ok (.if_icmp .eq 387, 3) := by decide +kernel
theorem d_LA_law_186 : decode code 186 = .ok (.iconst 0, 1) := by decide +kernel
theorem d_LA_law_187 : decode code 187 = .ok (.ireturn, 1) := by decide +kernel
theorem d_LA_law_188 : decode code 188 = .ok (.aload_n 1, 1) := by decide +kernel
theorem d_LA_law_189 : decode code 189 = .ok (.aload_n 0, 1) := by decide +kernel
theorem d_LA_law_190 : decode code 190 = .ok (.iload_n 3, 1) := by decide +kernel
theorem d_LA_law_191 : decode code 191 = .ok (.iconst 1, 1) := by decide +kernel
theorem d_LA_law_192 : decode code 192 = .ok (.iadd, 1) := by decide +kernel
theorem d_LA_law_193 : decode code 193 = .ok (.iaload, 1) := by decide +kernel
theorem d_LA_law_194 : decode code 194 = .ok (.aload_n 0, 1) := by decide +kernel
theorem d_LA_law_195 : decode code 195 = .ok (.iload_n 3, 1) := by decide +kernel
theorem d_LA_law_196 : decode code 196 = .ok (.iconst 2, 1) := by decide +kernel
theorem d_LA_law_197 : decode code 197 = .ok (.iadd, 1) := by decide +kernel
theorem d_LA_law_198 : decode code 198 = .ok (.iaload, 1) := by decide +kernel
theorem d_LA_law_199 : decode code 199 = .ok (.invokevirtual 23, 3) := by decide +kernel
theorem d_LA_law_202 : decode code 202 = .ok (.aload_n 2, 1) := by decide +kernel
theorem d_LA_law_203 : decode code 203 = .ok (.aload_n 0, 1) := by decide +kernel
