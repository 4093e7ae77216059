theorem d_L_law_0 : decode c_L_law 0 = .ok (.new 8, 3) := by decide +kernel
theorem d_L_law_3 : decode c_L_law 3 = .ok (.dup, 1) := by decide +kernel
theorem d_L_law_4 : decode c_L_law 4 = .ok (.aload_n 0, 1) := by decide +kernel
theorem d_L_law_5 : decode c_L_law 5 = .ok (.iconst 0, 1) := by decide +kernel
theorem d_L_law_6 : decode c_L_law 6 = .ok (.invokestatic 58, 3) := by decide +kernel
theorem d_L_law_9 : decode c_L_law 9 = .ok (.invokespecial 64, 3) := by decide +kernel
theorem d_L_law_12 : decode c_L_law 12 = .ok (.astore_n 1, 1) := by decide +kernel
theorem d_L_law_13 : decode c_L_law 13 = .ok (.new 67, 3) := by decide +kernel
theorem d_L_law_16 : decode c_L_law 16 = .ok (.dup, 1) := by decide +kernel
theorem d_L_law_17 : decode c_L_law 17 = .ok (.aload_n 0, 1) := by decide +kernel
theorem d_L_law_18 : decode c_L_law 18 = .ok (.iconst 0, 1) := by decide +kernel
theorem d_L_law_19 : decode c_L_law 19 = .ok (.invokestatic 58, 3) := by decide +kernel
theorem d_L_law_22 : decode c_L_law 22 = .ok (.invokespecial 69, 3) := by decide +kernel
theorem d_L_law_25 : decode c_L_law 25 = .ok (.astore_n 2, 1) := by decide +kernel
theorem d_L_law_26 : decode c_L_law 26 = .ok (.iconst 1, 1) := by decide +kernel
theorem d_L_law_27 : decode c_L_law 27 = .ok (.newarray .long, 2) := by decide +kernel
theorem d_L_law_29 : decode c_L_law 29 = .ok (.astore_n 3, 1) := by decide +kernel
theorem d_L_law_30 : decode c_L_law 30 = .ok (.iconst 1, 1) := by decide +kernel
theorem d_L_law_31 : decode c_L_law 31 = .ok (.istore 4, 2) := by decide +kernel
theorem d_L_law_33 : decode c_L_law 33 = .ok (.iload 4, 2) := by decide +kernel
theorem d_L_law_35 : decode c_L_law 35 = .ok (.aload_n 0, 1) := by decide +kernel
theorem d_L_law_36 : decode c_L_law 36 = .ok (.arraylength, 1) := by decide +kernel
theorem d_L_law_37 : decode c_L_law 37 = .ok (.bipush 6, 2) := by decide +kernel
theorem d_L_law_39 : decode c_L_law 39 = .ok (.isub, 1) := by decide +kernel
theorem d_L_law_40 : decode c_L_law 40 = .ok (.if_icmp .gt 1007, 3) := by decide +kernel
theorem d_L_law_43 : decode c_L_law 43 = .ok (.aload_n 0, 1) := by decide +kernel
theorem d_L_law_44 : decode c_L_law 44 = .ok (.iload 4, 2) := by decide +kernel
theorem d_L_law_46 : decode c_L_law 46 = .ok (.iaload, 1) := by decide +kernel
theorem d_L_law_47 : decode c_L_law 47 = .ok (.bipush 15, 2) := by decide +kernel
theorem d_L_law_49 : decode c_L_law 49 = .ok (.iand, 1) := by decide +kernel
theorem d_L_law_50 : decode c_L_law 50 = .ok (.tableswitch 991 0 13 #[70, 114, 206, 262, 330, 410, 466, 479, 547, 560, 704, 759, 815, 966], 70) := by decide +kernel
theorem d_L_law_120 : decode c_L_law 120 = .ok (.aload_n 1, 1) := by decide +kernel
theorem d_L_law_121 : decode c_L_law 121 = .ok (.aload_n 3, 1) := by decide +kernel
theorem d_L_law_122 : decode c_L_law 122 = .ok (.invokestatic 70, 3) := by decide +kernel
theorem d_L_law_125 : decode c_L_law 125 = .ok (.istore 5, 2) := by decide +kernel
theorem d_L_law_127 : decode c_L_law 127 = .ok (.aload_n 2, 1) := by decide +kernel
theorem d_L_law_128 : decode c_L_law 128 = .ok (.invokevirtual 73, 3) := by decide +kernel
theorem d_L_law_131 : decode c_L_law 131 = .ok (.istore 6, 2) := by decide +kernel
theorem d_L_law_133 : decode c_L_law 133 = .ok (.aload_n 2, 1) := by decide +kernel
theorem d_L_law_134 : decode c_L_law 134 = .ok (.invokevirtual 74, 3) := by decide +kernel
theorem d_L_law_137 : decode c_L_law 137 = .ok (.iload 5, 2) := by decide +kernel
theorem d_L_law_139 : decode c_L_law 139 = .ok (.if_icmp .eq 5, 3) := by decide +kernel
theorem d_L_law_142 : decode c_L_law 142 = .ok (.iconst 0, 1) := by decide +kernel
theorem d_L_law_143 : decode c_L_law 143 = .ok (.ireturn, 1) := by decide +kernel
theorem d_L_law_144 : decode c_L_law 144 = .ok (.iload 5, 2) := by decide +kernel
theorem d_L_law_146 : decode c_L_law 146 = .ok (.ifCond .ne 15, 3) := by decide +kernel
theorem d_L_law_149 : decode c_L_law 149 = .ok (.aload_n 3, 1) := by decide +kernel
theorem d_L_law_150 : decode c_L_law 150 = .ok (.iconst 0, 1) := by decide +kernel
theorem d_L_law_151 : decode c_L_law 151 = .ok (.laload, 1) := by decide +kernel
theorem d_L_law_152 : decode c_L_law 152 = .ok (.iload 6, 2) := by decide +kernel
theorem d_L_law_154 : decode c_L_law 154 = .ok (.i2l, 1) := by decide +kernel
theorem d_L_law_155 : decode c_L_law 155 = .ok (.lcmp, 1) := by decide +kernel
theorem d_L_law_156 : decode c_L_law 156 = .ok (.ifCond .eq 5, 3) := by decide +kernel
theorem d_L_law_159 : decode c_L_law 159 = .ok (.iconst 0, 1) := by decide +kernel
theorem d_L_law_160 : decode c_L_law 160 = .ok (.ireturn, 1) := by decide +kernel
theorem d_L_law_161 : decode c_L_law 161 = .ok (.goto 880, 3) := by decide +kernel
theorem d_L_law_164 : decode c_L_law 164 = .ok (.aload_n 1, 1) := by decide +kernel
theorem d_L_law_165 : decode c_L_law 165 = .ok (.aload_n 0, 1) := by decide +kernel
theorem d_L_law_166 : decode c_L_law 166 = .ok (.iload 4, 2) := by decide +kernel
theorem d_L_law_168 : decode c_L_law 168 = .ok (.iconst 1, 1) := by decide +kernel
theorem d_L_law_169 : decode c_L_law 169 = .ok (.iadd, 1) := by decide +kernel
theorem d_L_law_170 : decode c_L_law 170 = .ok (.iaload, 1) := by decide +kernel
theorem d_L_law_171 : decode c_L_law 171 = .ok (.aload_n 0, 1) := by decide +kernel
theorem d_L_law_172 : decode c_L_law 172 = .ok (.iload 4, 2) := by decide +kernel
theorem d_L_law_174 : decode c_L_law 174 = .ok (.iconst 2, 1) := by decide +kernel
theorem d_L_law_175 : decode c_L_law 175 = .ok (.iadd, 1) := by decide +kernel
theorem d_L_law_176 : decode c_L_law 176 = .ok (.iaload, 1) := by decide +kernel
theorem d_L_law_177 : decode c_L_law 177 = .ok (.aload_n 0, 1) := by decide +kernel
theorem d_L_law_178 : decode c_L_law 178 = .ok (.iload 4, 2) := by decide +kernel
theorem d_L_law_180 : decode c_L_law 180 = .ok (.iconst 3, 1) := by decide +kernel
theorem d_L_law_181 : decode c_L_law 181 = .ok (.iadd, 1) := by decide +kernel
theorem d_L_law_182 : decode c_L_law 182 = .ok (.iaload, 1) := by decide +kernel
theorem d_L_law_183 : decode c_L_law 183 = .ok (.aload_n 0, 1) := by decide +kernel
theorem d_L_law_184 : decode c_L_law 184 = .ok (.iload 4, 2) := by decide +kernel
theorem d_L_law_186 : decode c_L_law 186 = .ok (.iconst 4, 1) := by decide +kernel
theorem d_L_law_187 : decode c_L_law 187 = .ok (.iadd, 1) := by decide +kernel
theorem d_L_law_188 : decode c_L_law 188 = .ok (.iaload, 1) := by decide +kernel
theorem d_L_law_189 : decode c_L_law 189 = .ok (.aload_n 3, 1) := by decide +kernel
theorem d_L_law_190 : decode c_L_law 190 = .ok (.invokestatic 77, 3) := by decide +kernel
theorem d_L_law_193 : decode c_L_law 193 = .ok (.istore 5, 2) := by decide +kernel
theorem d_L_law_195 : decode c_L_law 195 = .ok (.aload_n 2, 1) := by decide +kernel
theorem d_L_law_196 : decode c_L_law 196 = .ok (.aload_n 0, 1) := by decide +kernel
theorem d_L_law_197 : decode c_L_law 197 = .ok (.iload 4, 2) := by decide +kernel
theorem d_L_law_199 : decode c_L_law 199 = .ok (.iconst 1, 1) := by decide +kernel
theorem d_L_law_200 : decode c_L_law 200 = .ok (.iadd, 1) := by decide +kernel
theorem d_L_law_201 : decode c_L_law 201 = .ok (.iaload, 1) := by decide +kernel
theorem d_L_law_202 : decode c_L_law 202 = .ok (.aload_n 0, 1) := by decide +kernel
theorem d_L_law_203 : decode c_L_law 203 = .ok (.iload 4, 2) := by decide +kernel
theorem d_L_law_205 : decode c_L_law 205 = .ok (.iconst 2, 1) := by decide +kernel
theorem d_L_law_206 : decode c_L_law 206 = .ok (.iadd, 1) := by decide +kernel
theorem d_L_law_207 : decode c_L_law 207 = .ok (.iaload, 1) := by decide +kernel
theorem d_L_law_208 : decode c_L_law 208 = .ok (.aload_n 0, 1) := by decide +kernel
theorem d_L_law_209 : decode c_L_law 209 = .ok (.iload 4, 2) := by decide +kernel
theorem d_L_law_211 : decode c_L_law 211 = .ok (.iconst 3, 1) := by decide +kernel
theorem d_L_law_212 : decode c_L_law 212 = .ok (.iadd, 1) := by decide +kernel
theorem d_L_law_213 : decode c_L_law 213 = .ok (.iaload, 1) := by decide +kernel
theorem d_L_law_214 : decode c_L_law 214 = .ok (.aload_n 0, 1) := by decide +kernel
theorem d_L_law_215 : decode c_L_law 215 = .ok (.iload 4, 2) := by decide +kernel
theorem d_L_law_217 : decode c_L_law 217 = .ok (.iconst 4, 1) := by decide +kernel
theorem d_L_law_218 : decode c_L_law 218 = .ok (.iadd, 1) := by decide +kernel
theorem d_L_law_219 : decode c_L_law 219 = .ok (.iaload, 1) := by decide +kernel
theorem d_L_law_220 : decode c_L_law 220 = .ok (.invokevirtual 80, 3) := by decide +kernel
theorem d_L_law_223 : decode c_L_law 223 = .ok (.istore 6, 2) := by decide +kernel
theorem d_L_law_225 : decode c_L_law 225 = .ok (.aload_n 2, 1) := by decide +kernel
theorem d_L_law_226 : decode c_L_law 226 = .ok (.invokevirtual 74, 3) := by decide +kernel
theorem d_L_law_229 : decode c_L_law 229 = .ok (.iload 5, 2) := by decide +kernel
theorem d_L_law_231 : decode c_L_law 231 = .ok (.if_icmp .eq 5, 3) := by decide +kernel
theorem d_L_law_234 : decode c_L_law 234 = .ok (.iconst 0, 1) := by decide +kernel
theorem d_L_law_235 : decode c_L_law 235 = .ok (.ireturn, 1) := by decide +kernel
theorem d_L_law_236 : decode c_L_law 236 = .ok (.iload 5, 2) := by decide +kernel
