theorem d_L_law_0 : decode c_L_law 0 = .ok (.new 8, 3) := by decide +kernel
theorem d_L_law_3 : decode c_L_law 3 = .ok (.dup, 1) := by decide +kernel
theorem d_L_law_4 : decode c_L_law 4 = .ok (.aload_n 0, 1) := by decide +kernel
theorem d_L_law_5 : decode c_L_law 5 = .ok (.iconst 0, 1) := by decide +kernel
theorem d_L_law_6 : decode c_L_law 6 = .ok (.invokestatic 64, 3) := by decide +kernel
theorem d_L_law_9 : decode c_L_law 9 = .ok (.invokespecial 70, 3) := by decide +kernel
theorem d_L_law_12 : decode c_L_law 12 = .ok (.astore_n 1, 1) := by decide +kernel
theorem d_L_law_13 : decode c_L_law 13 = .ok (.new 73, 3) := by decide +kernel
theorem d_L_law_16 : decode c_L_law 16 = .ok (.dup, 1) := by decide +kernel
theorem d_L_law_17 : decode c_L_law 17 = .ok (.aload_n 0, 1) := by decide +kernel
theorem d_L_law_18 : decode c_L_law 18 = .ok (.iconst 0, 1) := by decide +kernel
theorem d_L_law_19 : decode c_L_law 19 = .ok (.invokestatic 64, 3) := by decide +kernel
theorem d_L_law_22 : decode c_L_law 22 = .ok (.invokespecial 75, 3) := by decide +kernel
theorem d_L_law_25 : decode c_L_law 25 = .ok (.astore_n 2, 1) := by decide +kernel
theorem d_L_law_26 : decode c_L_law 26 = .ok (.iconst 1, 1) := by decide +kernel
theorem d_L_law_27 : decode c_L_law 27 = .ok (.newarray .long, 2) := by decide +kernel
theorem d_L_law_29 : decode c_L_law 29 = .ok (.astore_n 3, 1) := by decide +kernel
theorem d_L_law_30 : decode c_L_law 30 = .ok (.iconst 1, 1) := by decide +kernel
theorem d_L_law_31 : decode c_L_law 31 = .ok (.istore 4, 2) := by decide +kernel
theorem d_L_law_33 : decode c_L_law 33 = .ok (.iload 4, 2) := by decide +kernel
theorem d_L_law_35 : decode c_L_law 35 = .ok (.aload_n 0, 1) := by decide +kernel
theorem d_L_law_36 : decode c_L_law 36 = .ok (.arraylength, 1) := by decide +kernel
theorem d_L_law_37 : decode c_L_law 37 = .ok (.bipush 7, 2) := by decide +kernel
theorem d_L_law_39 : decode c_L_law 39 = .ok (.isub, 1) := by decide +kernel
theorem d_L_law_40 : decode c_L_law 40 = .ok (.if_icmp .gt 1015, 3) := by decide +kernel
theorem d_L_law_43 : decode c_L_law 43 = .ok (.aload_n 0, 1) := by decide +kernel
theorem d_L_law_44 : decode c_L_law 44 = .ok (.iload 4, 2) := by decide +kernel
theorem d_L_law_46 : decode c_L_law 46 = .ok (.iaload, 1) := by decide +kernel
theorem d_L_law_47 : decode c_L_law 47 = .ok (.bipush 15, 2) := by decide +kernel
theorem d_L_law_49 : decode c_L_law 49 = .ok (.iand, 1) := by decide +kernel
theorem d_L_law_50 : decode c_L_law 50 = .ok (.tableswitch 999 0 14 #[74, 122, 190, 245, 300, 368, 436, 449, 505, 565, 621, 677, 757, 825, 943], 74) := by decide +kernel
theorem d_L_law_124 : decode c_L_law 124 = .ok (.aload_n 1, 1) := by decide +kernel
theorem d_L_law_125 : decode c_L_law 125 = .ok (.aload_n 0, 1) := by decide +kernel
theorem d_L_law_126 : decode c_L_law 126 = .ok (.iload 4, 2) := by decide +kernel
theorem d_L_law_128 : decode c_L_law 128 = .ok (.iconst 1, 1) := by decide +kernel
theorem d_L_law_129 : decode c_L_law 129 = .ok (.iadd, 1) := by decide +kernel
theorem d_L_law_130 : decode c_L_law 130 = .ok (.iaload, 1) := by decide +kernel
theorem d_L_law_131 : decode c_L_law 131 = .ok (.aload_n 0, 1) := by decide +kernel
theorem d_L_law_132 : decode c_L_law 132 = .ok (.iload 4, 2) := by decide +kernel
theorem d_L_law_134 : decode c_L_law 134 = .ok (.iconst 2, 1) := by decide +kernel
theorem d_L_law_135 : decode c_L_law 135 = .ok (.iadd, 1) := by decide +kernel
theorem d_L_law_136 : decode c_L_law 136 = .ok (.iaload, 1) := by decide +kernel
theorem d_L_law_137 : decode c_L_law 137 = .ok (.invokestatic 76, 3) := by decide +kernel
theorem d_L_law_140 : decode c_L_law 140 = .ok (.istore 5, 2) := by decide +kernel
theorem d_L_law_142 : decode c_L_law 142 = .ok (.aload_n 2, 1) := by decide +kernel
theorem d_L_law_143 : decode c_L_law 143 = .ok (.aload_n 0, 1) := by decide +kernel
theorem d_L_law_144 : decode c_L_law 144 = .ok (.iload 4, 2) := by decide +kernel
theorem d_L_law_146 : decode c_L_law 146 = .ok (.iconst 1, 1) := by decide +kernel
theorem d_L_law_147 : decode c_L_law 147 = .ok (.iadd, 1) := by decide +kernel
theorem d_L_law_148 : decode c_L_law 148 = .ok (.iaload, 1) := by decide +kernel
theorem d_L_law_149 : decode c_L_law 149 = .ok (.aload_n 0, 1) := by decide +kernel
theorem d_L_law_150 : decode c_L_law 150 = .ok (.iload 4, 2) := by decide +kernel
theorem d_L_law_152 : decode c_L_law 152 = .ok (.iconst 2, 1) := by decide +kernel
theorem d_L_law_153 : decode c_L_law 153 = .ok (.iadd, 1) := by decide +kernel
theorem d_L_law_154 : decode c_L_law 154 = .ok (.iaload, 1) := by decide +kernel
theorem d_L_law_155 : decode c_L_law 155 = .ok (.invokevirtual 79, 3) := by decide +kernel
theorem d_L_law_158 : decode c_L_law 158 = .ok (.aload_n 2, 1) := by decide +kernel
theorem d_L_law_159 : decode c_L_law 159 = .ok (.invokevirtual 80, 3) := by decide +kernel
theorem d_L_law_162 : decode c_L_law 162 = .ok (.iload 5, 2) := by decide +kernel
theorem d_L_law_164 : decode c_L_law 164 = .ok (.if_icmp .eq 5, 3) := by decide +kernel
theorem d_L_law_167 : decode c_L_law 167 = .ok (.iconst 0, 1) := by decide +kernel
theorem d_L_law_168 : decode c_L_law 168 = .ok (.ireturn, 1) := by decide +kernel
theorem d_L_law_169 : decode c_L_law 169 = .ok (.goto 880, 3) := by decide +kernel
theorem d_L_law_172 : decode c_L_law 172 = .ok (.aload_n 1, 1) := by decide +kernel
theorem d_L_law_173 : decode c_L_law 173 = .ok (.aload_n 0, 1) := by decide +kernel
theorem d_L_law_174 : decode c_L_law 174 = .ok (.iload 4, 2) := by decide +kernel
theorem d_L_law_176 : decode c_L_law 176 = .ok (.iconst 1, 1) := by decide +kernel
theorem d_L_law_177 : decode c_L_law 177 = .ok (.iadd, 1) := by decide +kernel
theorem d_L_law_178 : decode c_L_law 178 = .ok (.iaload, 1) := by decide +kernel
theorem d_L_law_179 : decode c_L_law 179 = .ok (.aload_n 0, 1) := by decide +kernel
theorem d_L_law_180 : decode c_L_law 180 = .ok (.iload 4, 2) := by decide +kernel
theorem d_L_law_182 : decode c_L_law 182 = .ok (.iconst 2, 1) := by decide +kernel
theorem d_L_law_183 : decode c_L_law 183 = .ok (.iadd, 1) := by decide +kernel
theorem d_L_law_184 : decode c_L_law 184 = .ok (.iaload, 1) := by decide +kernel
theorem d_L_law_185 : decode c_L_law 185 = .ok (.aload_n 3, 1) := by decide +kernel
theorem d_L_law_186 : decode c_L_law 186 = .ok (.invokestatic 84, 3) := by decide +kernel
theorem d_L_law_189 : decode c_L_law 189 = .ok (.istore 5, 2) := by decide +kernel
theorem d_L_law_191 : decode c_L_law 191 = .ok (.aload_n 2, 1) := by decide +kernel
theorem d_L_law_192 : decode c_L_law 192 = .ok (.aload_n 0, 1) := by decide +kernel
theorem d_L_law_193 : decode c_L_law 193 = .ok (.iload 4, 2) := by decide +kernel
theorem d_L_law_195 : decode c_L_law 195 = .ok (.iconst 1, 1) := by decide +kernel
theorem d_L_law_196 : decode c_L_law 196 = .ok (.iadd, 1) := by decide +kernel
theorem d_L_law_197 : decode c_L_law 197 = .ok (.iaload, 1) := by decide +kernel
theorem d_L_law_198 : decode c_L_law 198 = .ok (.aload_n 0, 1) := by decide +kernel
theorem d_L_law_199 : decode c_L_law 199 = .ok (.iload 4, 2) := by decide +kernel
theorem d_L_law_201 : decode c_L_law 201 = .ok (.iconst 2, 1) := by decide +kernel
theorem d_L_law_202 : decode c_L_law 202 = .ok (.iadd, 1) := by decide +kernel
theorem d_L_law_203 : decode c_L_law 203 = .ok (.iaload, 1) := by decide +kernel
theorem d_L_law_204 : decode c_L_law 204 = .ok (.invokevirtual 87, 3) := by decide +kernel
theorem d_L_law_207 : decode c_L_law 207 = .ok (.istore 6, 2) := by decide +kernel
theorem d_L_law_209 : decode c_L_law 209 = .ok (.aload_n 2, 1) := by decide +kernel
theorem d_L_law_210 : decode c_L_law 210 = .ok (.invokevirtual 80, 3) := by decide +kernel
theorem d_L_law_213 : decode c_L_law 213 = .ok (.iload 5, 2) := by decide +kernel
theorem d_L_law_215 : decode c_L_law 215 = .ok (.if_icmp .eq 5, 3) := by decide +kernel
theorem d_L_law_218 : decode c_L_law 218 = .ok (.iconst 0, 1) := by decide +kernel
theorem d_L_law_219 : decode c_L_law 219 = .ok (.ireturn, 1) := by decide +kernel
theorem d_L_law_220 : decode c_L_law 220 = .ok (.iload 5, 2) := by decide +kernel
theorem d_L_law_222 : decode c_L_law 222 = .ok (.ifCond .ne 15, 3) := by decide +kernel
theorem d_L_law_225 : decode c_L_law 225 = .ok (.aload_n 3, 1) := by decide +kernel
theorem d_L_law_226 : decode c_L_law 226 = .ok (.iconst 0, 1) := by decide +kernel
theorem d_L_law_227 : decode c_L_law 227 = .ok (.laload, 1) := by decide +kernel
theorem d_L_law_228 : decode c_L_law 228 = .ok (.iload 6, 2) := by decide +kernel
theorem d_L_law_230 : decode c_L_law 230 = .ok (.i2l, 1) := by decide +kernel
theorem d_L_law_231 : decode c_L_law 231 = .ok (.lcmp, 1) := by decide +kernel
theorem d_L_law_232 : decode c_L_law 232 = .ok (.ifCond .eq 5, 3) := by decide +kernel
theorem d_L_law_235 : decode c_L_law 235 = .ok (.iconst 0, 1) := by decide +kernel
theorem d_L_law_236 : decode c_L_law 236 = .ok (.ireturn, 1) := by decide +kernel
theorem d_L_law_237 : decode c_L_law 237 = .ok (.goto 812, 3) := by decide +kernel
theorem d_L_law_240 : decode c_L_law 240 = .ok (.aload_n 1, 1) := by decide +kernel
theorem d_L_law_241 : decode c_L_law 241 = .ok (.aload_n 0, 1) := by decide +kernel
