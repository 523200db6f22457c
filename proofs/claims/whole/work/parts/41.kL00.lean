theorem d_L_law_0 : decode (qB q_L_law) 0 = .ok (.new 7, 3) := by decide +kernel
theorem d_L_law_3 : decode (qB q_L_law) 3 = .ok (.dup, 1) := by decide +kernel
theorem d_L_law_4 : decode (qB q_L_law) 4 = .ok (.aload_n 0, 1) := by decide +kernel
theorem d_L_law_5 : decode (qB q_L_law) 5 = .ok (.iconst 0, 1) := by decide +kernel
theorem d_L_law_6 : decode (qB q_L_law) 6 = .ok (.invokestatic 9, 3) := by decide +kernel
theorem d_L_law_9 : decode (qB q_L_law) 9 = .ok (.aload_n 0, 1) := by decide +kernel
theorem d_L_law_10 : decode (qB q_L_law) 10 = .ok (.iconst 1, 1) := by decide +kernel
theorem d_L_law_11 : decode (qB q_L_law) 11 = .ok (.invokestatic 9, 3) := by decide +kernel
theorem d_L_law_14 : decode (qB q_L_law) 14 = .ok (.invokespecial 15, 3) := by decide +kernel
theorem d_L_law_17 : decode (qB q_L_law) 17 = .ok (.astore_n 1, 1) := by decide +kernel
theorem d_L_law_18 : decode (qB q_L_law) 18 = .ok (.new 18, 3) := by decide +kernel
theorem d_L_law_21 : decode (qB q_L_law) 21 = .ok (.dup, 1) := by decide +kernel
theorem d_L_law_22 : decode (qB q_L_law) 22 = .ok (.aload_n 0, 1) := by decide +kernel
theorem d_L_law_23 : decode (qB q_L_law) 23 = .ok (.iconst 0, 1) := by decide +kernel
theorem d_L_law_24 : decode (qB q_L_law) 24 = .ok (.invokestatic 9, 3) := by decide +kernel
theorem d_L_law_27 : decode (qB q_L_law) 27 = .ok (.aload_n 0, 1) := by decide +kernel
theorem d_L_law_28 : decode (qB q_L_law) 28 = .ok (.iconst 1, 1) := by decide +kernel
theorem d_L_law_29 : decode (qB q_L_law) 29 = .ok (.invokestatic 9, 3) := by decide +kernel
theorem d_L_law_32 : decode (qB q_L_law) 32 = .ok (.invokespecial 20, 3) := by decide +kernel
theorem d_L_law_35 : decode (qB q_L_law) 35 = .ok (.astore_n 2, 1) := by decide +kernel
theorem d_L_law_36 : decode (qB q_L_law) 36 = .ok (.iconst 2, 1) := by decide +kernel
theorem d_L_law_37 : decode (qB q_L_law) 37 = .ok (.istore_n 3, 1) := by decide +kernel
theorem d_L_law_38 : decode (qB q_L_law) 38 = .ok (.iload_n 3, 1) := by decide +kernel
theorem d_L_law_39 : decode (qB q_L_law) 39 = .ok (.aload_n 0, 1) := by decide +kernel
theorem d_L_law_40 : decode (qB q_L_law) 40 = .ok (.arraylength, 1) := by decide +kernel
theorem d_L_law_41 : decode (qB q_L_law) 41 = .ok (.bipush 7, 2) := by decide +kernel
theorem d_L_law_43 : decode (qB q_L_law) 43 = .ok (.isub, 1) := by decide +kernel
theorem d_L_law_44 : decode (qB q_L_law) 44 = .ok (.if_icmp .gt 962, 3) := by decide +kernel
theorem d_L_law_47 : decode (qB q_L_law) 47 = .ok (.aload_n 0, 1) := by decide +kernel
theorem d_L_law_48 : decode (qB q_L_law) 48 = .ok (.iload_n 3, 1) := by decide +kernel
theorem d_L_law_49 : decode (qB q_L_law) 49 = .ok (.iaload, 1) := by decide +kernel
theorem d_L_law_50 : decode (qB q_L_law) 50 = .ok (.bipush 31, 2) := by decide +kernel
theorem d_L_law_52 : decode (qB q_L_law) 52 = .ok (.iand, 1) := by decide +kernel
theorem d_L_law_53 : decode (qB q_L_law) 53 = .ok (.tableswitch 947 0 17 #[87, 140, 173, 216, 299, 402, 497, 530, 554, 568, 581, 674, 718, 801, 854, 897, 921, 934], 87) := by decide +kernel
theorem d_L_law_140 : decode (qB q_L_law) 140 = .ok (.aload_n 1, 1) := by decide +kernel
theorem d_L_law_141 : decode (qB q_L_law) 141 = .ok (.aload_n 0, 1) := by decide +kernel
theorem d_L_law_142 : decode (qB q_L_law) 142 = .ok (.iload_n 3, 1) := by decide +kernel
theorem d_L_law_143 : decode (qB q_L_law) 143 = .ok (.iconst 1, 1) := by decide +kernel
theorem d_L_law_144 : decode (qB q_L_law) 144 = .ok (.iadd, 1) := by decide +kernel
theorem d_L_law_145 : decode (qB q_L_law) 145 = .ok (.iaload, 1) := by decide +kernel
theorem d_L_law_146 : decode (qB q_L_law) 146 = .ok (.aload_n 0, 1) := by decide +kernel
theorem d_L_law_147 : decode (qB q_L_law) 147 = .ok (.iload_n 3, 1) := by decide +kernel
theorem d_L_law_148 : decode (qB q_L_law) 148 = .ok (.iconst 2, 1) := by decide +kernel
theorem d_L_law_149 : decode (qB q_L_law) 149 = .ok (.iadd, 1) := by decide +kernel
theorem d_L_law_150 : decode (qB q_L_law) 150 = .ok (.iaload, 1) := by decide +kernel
theorem d_L_law_151 : decode (qB q_L_law) 151 = .ok (.aload_n 0, 1) := by decide +kernel
theorem d_L_law_152 : decode (qB q_L_law) 152 = .ok (.iload_n 3, 1) := by decide +kernel
theorem d_L_law_153 : decode (qB q_L_law) 153 = .ok (.iconst 3, 1) := by decide +kernel
theorem d_L_law_154 : decode (qB q_L_law) 154 = .ok (.iadd, 1) := by decide +kernel
theorem d_L_law_155 : decode (qB q_L_law) 155 = .ok (.iaload, 1) := by decide +kernel
theorem d_L_law_156 : decode (qB q_L_law) 156 = .ok (.aload_n 0, 1) := by decide +kernel
theorem d_L_law_157 : decode (qB q_L_law) 157 = .ok (.iload_n 3, 1) := by decide +kernel
theorem d_L_law_158 : decode (qB q_L_law) 158 = .ok (.iconst 4, 1) := by decide +kernel
theorem d_L_law_159 : decode (qB q_L_law) 159 = .ok (.iadd, 1) := by decide +kernel
theorem d_L_law_160 : decode (qB q_L_law) 160 = .ok (.iaload, 1) := by decide +kernel
theorem d_L_law_161 : decode (qB q_L_law) 161 = .ok (.invokevirtual 21, 3) := by decide +kernel
theorem d_L_law_164 : decode (qB q_L_law) 164 = .ok (.aload_n 2, 1) := by decide +kernel
theorem d_L_law_165 : decode (qB q_L_law) 165 = .ok (.aload_n 0, 1) := by decide +kernel
theorem d_L_law_166 : decode (qB q_L_law) 166 = .ok (.iload_n 3, 1) := by decide +kernel
theorem d_L_law_167 : decode (qB q_L_law) 167 = .ok (.iconst 1, 1) := by decide +kernel
theorem d_L_law_168 : decode (qB q_L_law) 168 = .ok (.iadd, 1) := by decide +kernel
theorem d_L_law_169 : decode (qB q_L_law) 169 = .ok (.iaload, 1) := by decide +kernel
theorem d_L_law_170 : decode (qB q_L_law) 170 = .ok (.aload_n 0, 1) := by decide +kernel
theorem d_L_law_171 : decode (qB q_L_law) 171 = .ok (.iload_n 3, 1) := by decide +kernel
theorem d_L_law_172 : decode (qB q_L_law) 172 = .ok (.iconst 2, 1) := by decide +kernel
theorem d_L_law_173 : decode (qB q_L_law) 173 = .ok (.iadd, 1) := by decide +kernel
theorem d_L_law_174 : decode (qB q_L_law) 174 = .ok (.iaload, 1) := by decide +kernel
theorem d_L_law_175 : decode (qB q_L_law) 175 = .ok (.aload_n 0, 1) := by decide +kernel
theorem d_L_law_176 : decode (qB q_L_law) 176 = .ok (.iload_n 3, 1) := by decide +kernel
theorem d_L_law_177 : decode (qB q_L_law) 177 = .ok (.iconst 3, 1) := by decide +kernel
theorem d_L_law_178 : decode (qB q_L_law) 178 = .ok (.iadd, 1) := by decide +kernel
theorem d_L_law_179 : decode (qB q_L_law) 179 = .ok (.iaload, 1) := by decide +kernel
theorem d_L_law_180 : decode (qB q_L_law) 180 = .ok (.aload_n 0, 1) := by decide +kernel
theorem d_L_law_181 : decode (qB q_L_law) 181 = .ok (.iload_n 3, 1) := by decide +kernel
theorem d_L_law_182 : decode (qB q_L_law) 182 = .ok (.iconst 4, 1) := by decide +kernel
theorem d_L_law_183 : decode (qB q_L_law) 183 = .ok (.iadd, 1) := by decide +kernel
theorem d_L_law_184 : decode (qB q_L_law) 184 = .ok (.iaload, 1) := by decide +kernel
theorem d_L_law_185 : decode (qB q_L_law) 185 = .ok (.invokevirtual 24, 3) := by decide +kernel
theorem d_L_law_188 : decode (qB q_L_law) 188 = .ok (.if_icmp .eq 812, 3) := by decide +kernel
theorem d_L_law_191 : decode (qB q_L_law) 191 = .ok (.iconst 0, 1) := by decide +kernel
theorem d_L_law_192 : decode (qB q_L_law) 192 = .ok (.ireturn, 1) := by decide +kernel
theorem d_L_law_193 : decode (qB q_L_law) 193 = .ok (.aload_n 1, 1) := by decide +kernel
theorem d_L_law_194 : decode (qB q_L_law) 194 = .ok (.aload_n 0, 1) := by decide +kernel
theorem d_L_law_195 : decode (qB q_L_law) 195 = .ok (.iload_n 3, 1) := by decide +kernel
theorem d_L_law_196 : decode (qB q_L_law) 196 = .ok (.iconst 1, 1) := by decide +kernel
theorem d_L_law_197 : decode (qB q_L_law) 197 = .ok (.iadd, 1) := by decide +kernel
theorem d_L_law_198 : decode (qB q_L_law) 198 = .ok (.iaload, 1) := by decide +kernel
theorem d_L_law_199 : decode (qB q_L_law) 199 = .ok (.aload_n 0, 1) := by decide +kernel
theorem d_L_law_200 : decode (qB q_L_law) 200 = .ok (.iload_n 3, 1) := by decide +kernel
theorem d_L_law_201 : decode (qB q_L_law) 201 = .ok (.iconst 2, 1) := by decide +kernel
theorem d_L_law_202 : decode (qB q_L_law) 202 = .ok (.iadd, 1) := by decide +kernel
theorem d_L_law_203 : decode (qB q_L_law) 203 = .ok (.iaload, 1) := by decide +kernel
theorem d_L_law_204 : decode (qB q_L_law) 204 = .ok (.invokevirtual 25, 3) := by decide +kernel
theorem d_L_law_207 : decode (qB q_L_law) 207 = .ok (.aload_n 2, 1) := by decide +kernel
theorem d_L_law_208 : decode (qB q_L_law) 208 = .ok (.aload_n 0, 1) := by decide +kernel
theorem d_L_law_209 : decode (qB q_L_law) 209 = .ok (.iload_n 3, 1) := by decide +kernel
theorem d_L_law_210 : decode (qB q_L_law) 210 = .ok (.iconst 1, 1) := by decide +kernel
theorem d_L_law_211 : decode (qB q_L_law) 211 = .ok (.iadd, 1) := by decide +kernel
theorem d_L_law_212 : decode (qB q_L_law) 212 = .ok (.iaload, 1) := by decide +kernel
theorem d_L_law_213 : decode (qB q_L_law) 213 = .ok (.aload_n 0, 1) := by decide +kernel
