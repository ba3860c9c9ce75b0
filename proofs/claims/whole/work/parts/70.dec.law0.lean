/-! Decoded instructions of the law. -/
theorem d_Law_0 : decode code 0 = .ok (.new 7, 3) := by decide +kernel
theorem d_Law_3 : decode code 3 = .ok (.dup, 1) := by decide +kernel
theorem d_Law_4 : decode code 4 = .ok (.invokespecial 9, 3) := by decide +kernel
theorem d_Law_7 : decode code 7 = .ok (.astore_n 1, 1) := by decide +kernel
theorem d_Law_8 : decode code 8 = .ok (.new 10, 3) := by decide +kernel
theorem d_Law_11 : decode code 11 = .ok (.dup, 1) := by decide +kernel
theorem d_Law_12 : decode code 12 = .ok (.invokespecial 12, 3) := by decide +kernel
theorem d_Law_15 : decode code 15 = .ok (.astore_n 2, 1) := by decide +kernel
theorem d_Law_16 : decode code 16 = .ok (.iconst 0, 1) := by decide +kernel
theorem d_Law_17 : decode code 17 = .ok (.istore_n 3, 1) := by decide +kernel
theorem d_Law_18 : decode code 18 = .ok (.iload_n 3, 1) := by decide +kernel
theorem d_Law_19 : decode code 19 = .ok (.aload_n 0, 1) := by decide +kernel
theorem d_Law_20 : decode code 20 = .ok (.arraylength, 1) := by decide +kernel
theorem d_Law_21 : decode code 21 = .ok (.iconst 5, 1) := by decide +kernel
theorem d_Law_22 : decode code 22 = .ok (.isub, 1) := by decide +kernel
theorem d_Law_23 : decode code 23 = .ok (.if_icmp .gt 658, 3) := by decide +kernel
theorem d_Law_26 : decode code 26 = .ok (.aload_n 0, 1) := by decide +kernel
theorem d_Law_27 : decode code 27 = .ok (.iload_n 3, 1) := by decide +kernel
theorem d_Law_28 : decode code 28 = .ok (.iaload, 1) := by decide +kernel
theorem d_Law_29 : decode code 29 = .ok (.bipush 31, 2) := by decide +kernel
theorem d_Law_31 : decode code 31 = .ok (.iand, 1) := by decide +kernel
theorem d_Law_32 : decode code 32 = .ok (.tableswitch 643 0 19 #[96, 129, 162, 195, 228, 251, 310, 333, 386, 399, 422, 435, 458, 481, 494, 507, 520, 543, 566, 600], 96) := by decide +kernel
theorem d_Law_128 : decode code 128 = .ok (.aload_n 1, 1) := by decide +kernel
theorem d_Law_129 : decode code 129 = .ok (.aload_n 0, 1) := by decide +kernel
theorem d_Law_130 : decode code 130 = .ok (.iload_n 3, 1) := by decide +kernel
theorem d_Law_131 : decode code 131 = .ok (.iconst 1, 1) := by decide +kernel
theorem d_Law_132 : decode code 132 = .ok (.iadd, 1) := by decide +kernel
theorem d_Law_133 : decode code 133 = .ok (.iaload, 1) := by decide +kernel
theorem d_Law_134 : decode code 134 = .ok (.aload_n 0, 1) := by decide +kernel
theorem d_Law_135 : decode code 135 = .ok (.iload_n 3, 1) := by decide +kernel
theorem d_Law_136 : decode code 136 = .ok (.iconst 2, 1) := by decide +kernel
theorem d_Law_137 : decode code 137 = .ok (.iadd, 1) := by decide +kernel
theorem d_Law_138 : decode code 138 = .ok (.iaload, 1) := by decide +kernel
theorem d_Law_139 : decode code 139 = .ok (.invokevirtual 13, 3) := by decide +kernel
theorem d_Law_142 : decode code 142 = .ok (.aload_n 2, 1) := by decide +kernel
theorem d_Law_143 : decode code 143 = .ok (.aload_n 0, 1) := by decide +kernel
theorem d_Law_144 : decode code 144 = .ok (.iload_n 3, 1) := by decide +kernel
theorem d_Law_145 : decode code 145 = .ok (.iconst 1, 1) := by decide +kernel
theorem d_Law_146 : decode code 146 = .ok (.iadd, 1) := by decide +kernel
theorem d_Law_147 : decode code 147 = .ok (.iaload, 1) := by decide +kernel
theorem d_Law_148 : decode code 148 = .ok (.aload_n 0, 1) := by decide +kernel
theorem d_Law_149 : decode code 149 = .ok (.iload_n 3, 1) := by decide +kernel
theorem d_Law_150 : decode code 150 = .ok (.iconst 2, 1) := by decide +kernel
theorem d_Law_151 : decode code 151 = .ok (.iadd, 1) := by decide +kernel
theorem d_Law_152 : decode code 152 = .ok (.iaload, 1) := by decide +kernel
theorem d_Law_153 : decode code 153 = .ok (.invokevirtual 17, 3) := by decide +kernel
theorem d_Law_156 : decode code 156 = .ok (.if_icmp .eq 519, 3) := by decide +kernel
theorem d_Law_159 : decode code 159 = .ok (.iconst 0, 1) := by decide +kernel
theorem d_Law_160 : decode code 160 = .ok (.ireturn, 1) := by decide +kernel
theorem d_Law_161 : decode code 161 = .ok (.aload_n 1, 1) := by decide +kernel
theorem d_Law_162 : decode code 162 = .ok (.aload_n 0, 1) := by decide +kernel
theorem d_Law_163 : decode code 163 = .ok (.iload_n 3, 1) := by decide +kernel
theorem d_Law_164 : decode code 164 = .ok (.iconst 1, 1) := by decide +kernel
theorem d_Law_165 : decode code 165 = .ok (.iadd, 1) := by decide +kernel
theorem d_Law_166 : decode code 166 = .ok (.iaload, 1) := by decide +kernel
theorem d_Law_167 : decode code 167 = .ok (.aload_n 0, 1) := by decide +kernel
theorem d_Law_168 : decode code 168 = .ok (.iload_n 3, 1) := by decide +kernel
theorem d_Law_169 : decode code 169 = .ok (.iconst 2, 1) := by decide +kernel
theorem d_Law_170 : decode code 170 = .ok (.iadd, 1) := by decide +kernel
theorem d_Law_171 : decode code 171 = .ok (.iaload, 1) := by decide +kernel
theorem d_Law_172 : decode code 172 = .ok (.invokevirtual 18, 3) := by decide +kernel
theorem d_Law_175 : decode code 175 = .ok (.aload_n 2, 1) := by decide +kernel
theorem d_Law_176 : decode code 176 = .ok (.aload_n 0, 1) := by decide +kernel
theorem d_Law_177 : decode code 177 = .ok (.iload_n 3, 1) := by decide +kernel
theorem d_Law_178 : decode code 178 = .ok (.iconst 1, 1) := by decide +kernel
theorem d_Law_179 : decode code 179 = .ok (.iadd, 1) := by decide +kernel
theorem d_Law_180 : decode code 180 = .ok (.iaload, 1) := by decide +kernel
theorem d_Law_181 : decode code 181 = .ok (.aload_n 0, 1) := by decide +kernel
theorem d_Law_182 : decode code 182 = .ok (.iload_n 3, 1) := by decide +kernel
theorem d_Law_183 : decode code 183 = .ok (.iconst 2, 1) := by decide +kernel
theorem d_Law_184 : decode code 184 = .ok (.iadd, 1) := by decide +kernel
theorem d_Law_185 : decode code 185 = .ok (.iaload, 1) := by decide +kernel
theorem d_Law_186 : decode code 186 = .ok (.invokevirtual 22, 3) := by decide +kernel
theorem d_Law_189 : decode code 189 = .ok (.if_icmp .eq 486, 3) := by decide +kernel
theorem d_Law_192 : decode code 192 = .ok (.iconst 0, 1) := by decide +kernel
theorem d_Law_193 : decode code 193 = .ok (.ireturn, 1) := by decide +kernel
theorem d_Law_194 : decode code 194 = .ok (.aload_n 1, 1) := by decide +kernel
theorem d_Law_195 : decode code 195 = .ok (.aload_n 0, 1) := by decide +kernel
theorem d_Law_196 : decode code 196 = .ok (.iload_n 3, 1) := by decide +kernel
theorem d_Law_197 : decode code 197 = .ok (.iconst 1, 1) := by decide +kernel
theorem d_Law_198 : decode code 198 = .ok (.iadd, 1) := by decide +kernel
theorem d_Law_199 : decode code 199 = .ok (.iaload, 1) := by decide +kernel
theorem d_Law_200 : decode code 200 = .ok (.aload_n 0, 1) := by decide +kernel
theorem d_Law_201 : decode code 201 = .ok (.iload_n 3, 1) := by decide +kernel
theorem d_Law_202 : decode code 202 = .ok (.iconst 2, 1) := by decide +kernel
theorem d_Law_203 : decode code 203 = .ok (.iadd, 1) := by decide +kernel
theorem d_Law_204 : decode code 204 = .ok (.iaload, 1) := by decide +kernel
theorem d_Law_205 : decode code 205 = .ok (.invokevirtual 23, 3) := by decide +kernel
theorem d_Law_208 : decode code 208 = .ok (.aload_n 2, 1) := by decide +kernel
theorem d_Law_209 : decode code 209 = .ok (.aload_n 0, 1) := by decide +kernel
theorem d_Law_210 : decode code 210 = .ok (.iload_n 3, 1) := by decide +kernel
theorem d_Law_211 : decode code 211 = .ok (.iconst 1, 1) := by decide +kernel
theorem d_Law_212 : decode code 212 = .ok (.iadd, 1) := by decide +kernel
theorem d_Law_213 : decode code 213 = .ok (.iaload, 1) := by decide +kernel
theorem d_Law_214 : decode code 214 = .ok (.aload_n 0, 1) := by decide +kernel
theorem d_Law_215 : decode code 215 = .ok (.iload_n 3, 1) := by decide +kernel
theorem d_Law_216 : decode code 216 = .ok (.iconst 2, 1) := by decide +kernel
theorem d_Law_217 : decode code 217 = .ok (.iadd, 1) := by decide +kernel
theorem d_Law_218 : decode code 218 = .ok (.iaload, 1) := by decide +kernel
theorem d_Law_219 : decode code 219 = .ok (.invokevirtual 26, 3) := by decide +kernel
theorem d_Law_222 : decode code 222 = .ok (.if_icmp .eq 453, 3) := by decide +kernel
theorem d_Law_225 : decode code 225 = .ok (.iconst 0, 1) := by decide +kernel
theorem d_Law_226 : decode code 226 = .ok (.ireturn, 1) := by decide +kernel
theorem d_Law_227 : decode code 227 = .ok (.aload_n 1, 1) := by decide +kernel
theorem d_Law_228 : decode code 228 = .ok (.aload_n 0, 1) := by decide +kernel
theorem d_Law_229 : decode code 229 = .ok (.iload_n 3, 1) := by decide +kernel
theorem d_Law_230 : decode code 230 = .ok (.iconst 1, 1) := by decide +kernel
theorem d_Law_231 : decode code 231 = .ok (.iadd, 1) := by decide +kernel
theorem d_Law_232 : decode code 232 = .ok (.iaload, 1) := by decide +kernel
theorem d_Law_233 : decode code 233 = .ok (.aload_n 0, 1) := by decide +kernel
theorem d_Law_234 : decode code 234 = .ok (.iload_n 3, 1) := by decide +kernel
theorem d_Law_235 : decode code 235 = .ok (.iconst 2, 1) := by decide +kernel
theorem d_Law_236 : decode code 236 = .ok (.iadd, 1) := by decide +kernel
theorem d_Law_237 : decode code 237 = .ok (.iaload, 1) := by decide +kernel
theorem d_Law_238 : decode code 238 = .ok (.invokevirtual 27, 3) := by decide +kernel
theorem d_Law_241 : decode code 241 = .ok (.aload_n 2, 1) := by decide +kernel
theorem d_Law_242 : decode code 242 = .ok (.aload_n 0, 1) := by decide +kernel
theorem d_Law_243 : decode code 243 = .ok (.iload_n 3, 1) := by decide +kernel
theorem d_Law_244 : decode code 244 = .ok (.iconst 1, 1) := by decide +kernel
theorem d_Law_245 : decode code 245 = .ok (.iadd, 1) := by decide +kernel
theorem d_Law_246 : decode code 246 = .ok (.iaload, 1) := by decide +kernel
theorem d_Law_247 : decode code 247 = .ok (.aload_n 0, 1) := by decide +kernel
theorem d_Law_248 : decode code 248 = .ok (.iload_n 3, 1) := by decide +kernel
theorem d_Law_249 : decode code 249 = .ok (.iconst 2, 1) := by decide +kernel
theorem d_Law_250 : decode code 250 = .ok (.iadd, 1) := by decide +kernel
theorem d_Law_251 : decode code 251 = .ok (.iaload, 1) := by decide +kernel
theorem d_Law_252 : decode code 252 = .ok (.invokevirtual 30, 3) := by decide +kernel
theorem d_Law_255 : decode code 255 = .ok (.if_icmp .eq 420, 3) := by decide +kernel
theorem d_Law_258 : decode code 258 = .ok (.iconst 0, 1) := by decide +kernel
theorem d_Law_259 : decode code 259 = .ok (.ireturn, 1) := by decide +kernel
theorem d_Law_260 : decode code 260 = .ok (.aload_n 1, 1) := by decide +kernel
theorem d_Law_261 : decode code 261 = .ok (.aload_n 0, 1) := by decide +kernel
theorem d_Law_262 : decode code 262 = .ok (.iload_n 3, 1) := by decide +kernel
theorem d_Law_263 : decode code 263 = .ok (.iconst 1, 1) := by decide +kernel
theorem d_Law_264 : decode code 264 = .ok (.iadd, 1) := by decide +kernel
theorem d_Law_265 : decode code 265 = .ok (.iaload, 1) := by decide +kernel
theorem d_Law_266 : decode code 266 = .ok (.invokevirtual 31, 3) := by decide +kernel
theorem d_Law_269 : decode code 269 = .ok (.aload_n 2, 1) := by decide +kernel
theorem d_Law_270 : decode code 270 = .ok (.aload_n 0, 1) := by decide +kernel
theorem d_Law_271 : decode code 271 = .ok (.iload_n 3, 1) := by decide +kernel
theorem d_Law_272 : decode code 272 = .ok (.iconst 1, 1) := by decide +kernel
theorem d_Law_273 : decode code 273 = .ok (.iadd, 1) := by decide +kernel
theorem d_Law_274 : decode code 274 = .ok (.iaload, 1) := by decide +kernel
theorem d_Law_275 : decode code 275 = .ok (.invokevirtual 35, 3) := by decide +kernel
theorem d_Law_278 : decode code 278 = .ok (.if_icmp .eq 397, 3) := by decide +kernel
theorem d_Law_281 : decode code 281 = .ok (.iconst 0, 1) := by decide +kernel
theorem d_Law_282 : decode code 282 = .ok (.ireturn, 1) := by decide +kernel
theorem d_Law_283 : decode code 283 = .ok (.aload_n 1, 1) := by decide +kernel
theorem d_Law_284 : decode code 284 = .ok (.aload_n 0, 1) := by decide +kernel
