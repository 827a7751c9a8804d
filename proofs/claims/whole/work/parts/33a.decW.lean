theorem dW_0 : decode code 0 = .ok (.new 8, 3) := by decide +kernel
theorem dW_3 : decode code 3 = .ok (.dup, 1) := by decide +kernel
theorem dW_4 : decode code 4 = .ok (.invokespecial 65, 3) := by decide +kernel
theorem dW_7 : decode code 7 = .ok (.astore_n 1, 1) := by decide +kernel
theorem dW_8 : decode code 8 = .ok (.new 66, 3) := by decide +kernel
theorem dW_11 : decode code 11 = .ok (.dup, 1) := by decide +kernel
theorem dW_12 : decode code 12 = .ok (.invokespecial 68, 3) := by decide +kernel
theorem dW_15 : decode code 15 = .ok (.astore_n 2, 1) := by decide +kernel
theorem dW_16 : decode code 16 = .ok (.iconst 1, 1) := by decide +kernel
theorem dW_17 : decode code 17 = .ok (.newarray .long, 2) := by decide +kernel
theorem dW_19 : decode code 19 = .ok (.astore_n 3, 1) := by decide +kernel
theorem dW_20 : decode code 20 = .ok (.iconst 0, 1) := by decide +kernel
theorem dW_21 : decode code 21 = .ok (.istore 4, 2) := by decide +kernel
theorem dW_23 : decode code 23 = .ok (.iload 4, 2) := by decide +kernel
theorem dW_25 : decode code 25 = .ok (.aload_n 0, 1) := by decide +kernel
theorem dW_26 : decode code 26 = .ok (.arraylength, 1) := by decide +kernel
theorem dW_27 : decode code 27 = .ok (.bipush 6, 2) := by decide +kernel
theorem dW_29 : decode code 29 = .ok (.isub, 1) := by decide +kernel
theorem dW_30 : decode code 30 = .ok (.if_icmp .gt 1428, 3) := by decide +kernel
theorem dW_33 : decode code 33 = .ok (.aload_n 0, 1) := by decide +kernel
theorem dW_34 : decode code 34 = .ok (.iload 4, 2) := by decide +kernel
theorem dW_36 : decode code 36 = .ok (.iaload, 1) := by decide +kernel
theorem dW_37 : decode code 37 = .ok (.bipush 15, 2) := by decide +kernel
theorem dW_39 : decode code 39 = .ok (.iand, 1) := by decide +kernel
theorem dW_40 : decode code 40 = .ok (.tableswitch 1412 0 15 #[80, 204, 264, 379, 466, 553, 640, 727, 802, 889, 964, 1031, 1118, 1218, 1284, 1399], 80) := by decide +kernel
theorem dW_120 : decode code 120 = .ok (.aload_n 1, 1) := by decide +kernel
theorem dW_121 : decode code 121 = .ok (.aload_n 0, 1) := by decide +kernel
theorem dW_122 : decode code 122 = .ok (.iload 4, 2) := by decide +kernel
theorem dW_124 : decode code 124 = .ok (.iconst 1, 1) := by decide +kernel
theorem dW_125 : decode code 125 = .ok (.iadd, 1) := by decide +kernel
theorem dW_126 : decode code 126 = .ok (.iaload, 1) := by decide +kernel
theorem dW_127 : decode code 127 = .ok (.aload_n 0, 1) := by decide +kernel
theorem dW_128 : decode code 128 = .ok (.iload 4, 2) := by decide +kernel
theorem dW_130 : decode code 130 = .ok (.iconst 2, 1) := by decide +kernel
theorem dW_131 : decode code 131 = .ok (.iadd, 1) := by decide +kernel
theorem dW_132 : decode code 132 = .ok (.iaload, 1) := by decide +kernel
theorem dW_133 : decode code 133 = .ok (.aload_n 0, 1) := by decide +kernel
theorem dW_134 : decode code 134 = .ok (.iload 4, 2) := by decide +kernel
theorem dW_136 : decode code 136 = .ok (.iconst 3, 1) := by decide +kernel
theorem dW_137 : decode code 137 = .ok (.iadd, 1) := by decide +kernel
theorem dW_138 : decode code 138 = .ok (.iaload, 1) := by decide +kernel
theorem dW_139 : decode code 139 = .ok (.i2l, 1) := by decide +kernel
theorem dW_140 : decode code 140 = .ok (.bipush 32, 2) := by decide +kernel
theorem dW_142 : decode code 142 = .ok (.lshl, 1) := by decide +kernel
theorem dW_143 : decode code 143 = .ok (.aload_n 0, 1) := by decide +kernel
theorem dW_144 : decode code 144 = .ok (.iload 4, 2) := by decide +kernel
theorem dW_146 : decode code 146 = .ok (.iconst 4, 1) := by decide +kernel
theorem dW_147 : decode code 147 = .ok (.iadd, 1) := by decide +kernel
theorem dW_148 : decode code 148 = .ok (.iaload, 1) := by decide +kernel
theorem dW_149 : decode code 149 = .ok (.i2l, 1) := by decide +kernel
theorem dW_150 : decode code 150 = .ok (.ldc2_w 69, 3) := by decide +kernel
theorem dW_153 : decode code 153 = .ok (.land, 1) := by decide +kernel
theorem dW_154 : decode code 154 = .ok (.lor, 1) := by decide +kernel
theorem dW_155 : decode code 155 = .ok (.aload_n 0, 1) := by decide +kernel
theorem dW_156 : decode code 156 = .ok (.iload 4, 2) := by decide +kernel
theorem dW_158 : decode code 158 = .ok (.iconst 5, 1) := by decide +kernel
theorem dW_159 : decode code 159 = .ok (.iadd, 1) := by decide +kernel
theorem dW_160 : decode code 160 = .ok (.iaload, 1) := by decide +kernel
theorem dW_161 : decode code 161 = .ok (.aload_n 3, 1) := by decide +kernel
theorem dW_162 : decode code 162 = .ok (.invokestatic 71, 3) := by decide +kernel
theorem dW_165 : decode code 165 = .ok (.istore 5, 2) := by decide +kernel
theorem dW_167 : decode code 167 = .ok (.aload_n 2, 1) := by decide +kernel
theorem dW_168 : decode code 168 = .ok (.aload_n 0, 1) := by decide +kernel
theorem dW_169 : decode code 169 = .ok (.iload 4, 2) := by decide +kernel
theorem dW_171 : decode code 171 = .ok (.iconst 1, 1) := by decide +kernel
theorem dW_172 : decode code 172 = .ok (.iadd, 1) := by decide +kernel
theorem dW_173 : decode code 173 = .ok (.iaload, 1) := by decide +kernel
theorem dW_174 : decode code 174 = .ok (.aload_n 0, 1) := by decide +kernel
theorem dW_175 : decode code 175 = .ok (.iload 4, 2) := by decide +kernel
theorem dW_177 : decode code 177 = .ok (.iconst 2, 1) := by decide +kernel
theorem dW_178 : decode code 178 = .ok (.iadd, 1) := by decide +kernel
theorem dW_179 : decode code 179 = .ok (.iaload, 1) := by decide +kernel
theorem dW_180 : decode code 180 = .ok (.aload_n 0, 1) := by decide +kernel
theorem dW_181 : decode code 181 = .ok (.iload 4, 2) := by decide +kernel
theorem dW_183 : decode code 183 = .ok (.iconst 3, 1) := by decide +kernel
theorem dW_184 : decode code 184 = .ok (.iadd, 1) := by decide +kernel
theorem dW_185 : decode code 185 = .ok (.iaload, 1) := by decide +kernel
theorem dW_186 : decode code 186 = .ok (.i2l, 1) := by decide +kernel
theorem dW_187 : decode code 187 = .ok (.bipush 32, 2) := by decide +kernel
theorem dW_189 : decode code 189 = .ok (.lshl, 1) := by decide +kernel
theorem dW_190 : decode code 190 = .ok (.aload_n 0, 1) := by decide +kernel
theorem dW_191 : decode code 191 = .ok (.iload 4, 2) := by decide +kernel
theorem dW_193 : decode code 193 = .ok (.iconst 4, 1) := by decide +kernel
theorem dW_194 : decode code 194 = .ok (.iadd, 1) := by decide +kernel
theorem dW_195 : decode code 195 = .ok (.iaload, 1) := by decide +kernel
theorem dW_196 : decode code 196 = .ok (.i2l, 1) := by decide +kernel
theorem dW_197 : decode code 197 = .ok (.ldc2_w 69, 3) := by decide +kernel
theorem dW_200 : decode code 200 = .ok (.land, 1) := by decide +kernel
theorem dW_201 : decode code 201 = .ok (.lor, 1) := by decide +kernel
theorem dW_202 : decode code 202 = .ok (.aload_n 0, 1) := by decide +kernel
theorem dW_203 : decode code 203 = .ok (.iload 4, 2) := by decide +kernel
theorem dW_205 : decode code 205 = .ok (.iconst 5, 1) := by decide +kernel
theorem dW_206 : decode code 206 = .ok (.iadd, 1) := by decide +kernel
theorem dW_207 : decode code 207 = .ok (.iaload, 1) := by decide +kernel
theorem dW_208 : decode code 208 = .ok (.invokevirtual 76, 3) := by decide +kernel
theorem dW_211 : decode code 211 = .ok (.istore 6, 2) := by decide +kernel
theorem dW_213 : decode code 213 = .ok (.aload_n 2, 1) := by decide +kernel
theorem dW_214 : decode code 214 = .ok (.invokevirtual 77, 3) := by decide +kernel
theorem dW_217 : decode code 217 = .ok (.iload 5, 2) := by decide +kernel
theorem dW_219 : decode code 219 = .ok (.if_icmp .eq 5, 3) := by decide +kernel
theorem dW_222 : decode code 222 = .ok (.iconst 0, 1) := by decide +kernel
theorem dW_223 : decode code 223 = .ok (.ireturn, 1) := by decide +kernel
theorem dW_224 : decode code 224 = .ok (.iload 5, 2) := by decide +kernel
theorem dW_226 : decode code 226 = .ok (.ifCond .ne 15, 3) := by decide +kernel
theorem dW_229 : decode code 229 = .ok (.aload_n 3, 1) := by decide +kernel
theorem dW_230 : decode code 230 = .ok (.iconst 0, 1) := by decide +kernel
theorem dW_231 : decode code 231 = .ok (.laload, 1) := by decide +kernel
theorem dW_232 : decode code 232 = .ok (.iload 6, 2) := by decide +kernel
theorem dW_234 : decode code 234 = .ok (.i2l, 1) := by decide +kernel
theorem dW_235 : decode code 235 = .ok (.lcmp, 1) := by decide +kernel
theorem dW_236 : decode code 236 = .ok (.ifCond .eq 5, 3) := by decide +kernel
theorem dW_239 : decode code 239 = .ok (.iconst 0, 1) := by decide +kernel
theorem dW_240 : decode code 240 = .ok (.ireturn, 1) := by decide +kernel
theorem dW_241 : decode code 241 = .ok (.goto 1211, 3) := by decide +kernel
theorem dW_244 : decode code 244 = .ok (.aload_n 1, 1) := by decide +kernel
theorem dW_245 : decode code 245 = .ok (.aload_n 0, 1) := by decide +kernel
theorem dW_246 : decode code 246 = .ok (.iload 4, 2) := by decide +kernel
theorem dW_248 : decode code 248 = .ok (.iconst 1, 1) := by decide +kernel
theorem dW_249 : decode code 249 = .ok (.iadd, 1) := by decide +kernel
theorem dW_250 : decode code 250 = .ok (.iaload, 1) := by decide +kernel
theorem dW_251 : decode code 251 = .ok (.aload_n 0, 1) := by decide +kernel
theorem dW_252 : decode code 252 = .ok (.iload 4, 2) := by decide +kernel
theorem dW_254 : decode code 254 = .ok (.iconst 2, 1) := by decide +kernel
theorem dW_255 : decode code 255 = .ok (.iadd, 1) := by decide +kernel
theorem dW_256 : decode code 256 = .ok (.iaload, 1) := by decide +kernel
theorem dW_257 : decode code 257 = .ok (.aload_n 0, 1) := by decide +kernel
theorem dW_258 : decode code 258 = .ok (.iload 4, 2) := by decide +kernel
theorem dW_260 : decode code 260 = .ok (.iconst 3, 1) := by decide +kernel
theorem dW_261 : decode code 261 = .ok (.iadd, 1) := by decide +kernel
theorem dW_262 : decode code 262 = .ok (.iaload, 1) := by decide +kernel
theorem dW_263 : decode code 263 = .ok (.invokestatic 81, 3) := by decide +kernel
theorem dW_266 : decode code 266 = .ok (.istore 5, 2) := by decide +kernel
theorem dW_268 : decode code 268 = .ok (.aload_n 2, 1) := by decide +kernel
theorem dW_269 : decode code 269 = .ok (.aload_n 0, 1) := by decide +kernel
theorem dW_270 : decode code 270 = .ok (.iload 4, 2) := by decide +kernel
theorem dW_272 : decode code 272 = .ok (.iconst 1, 1) := by decide +kernel
theorem dW_273 : decode code 273 = .ok (.iadd, 1) := by decide +kernel
theorem dW_274 : decode code 274 = .ok (.iaload, 1) := by decide +kernel
theorem dW_275 : decode code 275 = .ok (.aload_n 0, 1) := by decide +kernel
theorem dW_276 : decode code 276 = .ok (.iload 4, 2) := by decide +kernel
theorem dW_278 : decode code 278 = .ok (.iconst 2, 1) := by decide +kernel
theorem dW_279 : decode code 279 = .ok (.iadd, 1) := by decide +kernel
theorem dW_280 : decode code 280 = .ok (.iaload, 1) := by decide +kernel
theorem dW_281 : decode code 281 = .ok (.aload_n 0, 1) := by decide +kernel
theorem dW_282 : decode code 282 = .ok (.iload 4, 2) := by decide +kernel
theorem dW_284 : decode code 284 = .ok (.iconst 3, 1) := by decide +kernel
theorem dW_285 : decode code 285 = .ok (.iadd, 1) := by decide +kernel
theorem dW_286 : decode code 286 = .ok (.iaload, 1) := by decide +kernel
theorem dW_287 : decode code 287 = .ok (.invokevirtual 84, 3) := by decide +kernel
theorem dW_290 : decode code 290 = .ok (.aload_n 2, 1) := by decide +kernel
theorem dW_291 : decode code 291 = .ok (.invokevirtual 77, 3) := by decide +kernel
theorem dW_294 : decode code 294 = .ok (.iload 5, 2) := by decide +kernel
theorem dW_296 : decode code 296 = .ok (.if_icmp .eq 5, 3) := by decide +kernel
theorem dW_299 : decode code 299 = .ok (.iconst 0, 1) := by decide +kernel
theorem dW_300 : decode code 300 = .ok (.ireturn, 1) := by decide +kernel
theorem dW_301 : decode code 301 = .ok (.goto 1151, 3) := by decide +kernel
theorem dW_304 : decode code 304 = .ok (.aload_n 1, 1) := by decide +kernel
theorem dW_305 : decode code 305 = .ok (.aload_n 0, 1) := by decide +kernel
theorem dW_306 : decode code 306 = .ok (.iload 4, 2) := by decide +kernel
theorem dW_308 : decode code 308 = .ok (.iconst 1, 1) := by decide +kernel
