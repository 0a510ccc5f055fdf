theorem dq_188_0 : decode (qx_code 188) 0 = .ok (.new 7, 3) := by decide +kernel
theorem dq_188_3 : decode (qx_code 188) 3 = .ok (.dup, 1) := by decide +kernel
theorem dq_188_4 : decode (qx_code 188) 4 = .ok (.invokespecial 9, 3) := by decide +kernel
theorem dq_188_7 : decode (qx_code 188) 7 = .ok (.astore_n 1, 1) := by decide +kernel
theorem dq_188_8 : decode (qx_code 188) 8 = .ok (.new 10, 3) := by decide +kernel
theorem dq_188_11 : decode (qx_code 188) 11 = .ok (.dup, 1) := by decide +kernel
theorem dq_188_12 : decode (qx_code 188) 12 = .ok (.invokespecial 12, 3) := by decide +kernel
theorem dq_188_15 : decode (qx_code 188) 15 = .ok (.astore_n 2, 1) := by decide +kernel
theorem dq_188_16 : decode (qx_code 188) 16 = .ok (.iconst 0, 1) := by decide +kernel
theorem dq_188_17 : decode (qx_code 188) 17 = .ok (.istore_n 3, 1) := by decide +kernel
theorem dq_188_18 : decode (qx_code 188) 18 = .ok (.iload_n 3, 1) := by decide +kernel
theorem dq_188_19 : decode (qx_code 188) 19 = .ok (.aload_n 0, 1) := by decide +kernel
theorem dq_188_20 : decode (qx_code 188) 20 = .ok (.arraylength, 1) := by decide +kernel
theorem dq_188_21 : decode (qx_code 188) 21 = .ok (.iconst 4, 1) := by decide +kernel
theorem dq_188_22 : decode (qx_code 188) 22 = .ok (.isub, 1) := by decide +kernel
theorem dq_188_23 : decode (qx_code 188) 23 = .ok (.if_icmp .gt 436, 3) := by decide +kernel
theorem dq_188_26 : decode (qx_code 188) 26 = .ok (.aload_n 0, 1) := by decide +kernel
theorem dq_188_27 : decode (qx_code 188) 27 = .ok (.iload_n 3, 1) := by decide +kernel
theorem dq_188_28 : decode (qx_code 188) 28 = .ok (.iaload, 1) := by decide +kernel
theorem dq_188_29 : decode (qx_code 188) 29 = .ok (.bipush 15, 2) := by decide +kernel
theorem dq_188_31 : decode (qx_code 188) 31 = .ok (.iand, 1) := by decide +kernel
theorem dq_188_32 : decode (qx_code 188) 32 = .ok (.tableswitch 421 0 11 #[64, 127, 160, 173, 186, 199, 222, 255, 298, 321, 364, 388], 64) := by decide +kernel
theorem dq_188_96 : decode (qx_code 188) 96 = .ok (.aload_n 1, 1) := by decide +kernel
theorem dq_188_97 : decode (qx_code 188) 97 = .ok (.aload_n 0, 1) := by decide +kernel
theorem dq_188_98 : decode (qx_code 188) 98 = .ok (.iload_n 3, 1) := by decide +kernel
theorem dq_188_99 : decode (qx_code 188) 99 = .ok (.iconst 1, 1) := by decide +kernel
theorem dq_188_100 : decode (qx_code 188) 100 = .ok (.iadd, 1) := by decide +kernel
theorem dq_188_101 : decode (qx_code 188) 101 = .ok (.iaload, 1) := by decide +kernel
theorem dq_188_102 : decode (qx_code 188) 102 = .ok (.i2l, 1) := by decide +kernel
theorem dq_188_103 : decode (qx_code 188) 103 = .ok (.bipush 32, 2) := by decide +kernel
theorem dq_188_105 : decode (qx_code 188) 105 = .ok (.lshl, 1) := by decide +kernel
theorem dq_188_106 : decode (qx_code 188) 106 = .ok (.aload_n 0, 1) := by decide +kernel
theorem dq_188_107 : decode (qx_code 188) 107 = .ok (.iload_n 3, 1) := by decide +kernel
theorem dq_188_108 : decode (qx_code 188) 108 = .ok (.iconst 2, 1) := by decide +kernel
theorem dq_188_109 : decode (qx_code 188) 109 = .ok (.iadd, 1) := by decide +kernel
theorem dq_188_110 : decode (qx_code 188) 110 = .ok (.iaload, 1) := by decide +kernel
theorem dq_188_111 : decode (qx_code 188) 111 = .ok (.i2l, 1) := by decide +kernel
theorem dq_188_112 : decode (qx_code 188) 112 = .ok (.ldc2_w 13, 3) := by decide +kernel
theorem dq_188_115 : decode (qx_code 188) 115 = .ok (.land, 1) := by decide +kernel
theorem dq_188_116 : decode (qx_code 188) 116 = .ok (.lor, 1) := by decide +kernel
theorem dq_188_117 : decode (qx_code 188) 117 = .ok (.aload_n 0, 1) := by decide +kernel
theorem dq_188_118 : decode (qx_code 188) 118 = .ok (.iload_n 3, 1) := by decide +kernel
theorem dq_188_119 : decode (qx_code 188) 119 = .ok (.iconst 3, 1) := by decide +kernel
theorem dq_188_120 : decode (qx_code 188) 120 = .ok (.iadd, 1) := by decide +kernel
theorem dq_188_121 : decode (qx_code 188) 121 = .ok (.iaload, 1) := by decide +kernel
theorem dq_188_122 : decode (qx_code 188) 122 = .ok (.invokevirtual 15, 3) := by decide +kernel
theorem dq_188_125 : decode (qx_code 188) 125 = .ok (.aload_n 2, 1) := by decide +kernel
theorem dq_188_126 : decode (qx_code 188) 126 = .ok (.aload_n 0, 1) := by decide +kernel
theorem dq_188_127 : decode (qx_code 188) 127 = .ok (.iload_n 3, 1) := by decide +kernel
theorem dq_188_128 : decode (qx_code 188) 128 = .ok (.iconst 1, 1) := by decide +kernel
theorem dq_188_129 : decode (qx_code 188) 129 = .ok (.iadd, 1) := by decide +kernel
theorem dq_188_130 : decode (qx_code 188) 130 = .ok (.iaload, 1) := by decide +kernel
theorem dq_188_131 : decode (qx_code 188) 131 = .ok (.i2l, 1) := by decide +kernel
theorem dq_188_132 : decode (qx_code 188) 132 = .ok (.bipush 32, 2) := by decide +kernel
theorem dq_188_134 : decode (qx_code 188) 134 = .ok (.lshl, 1) := by decide +kernel
theorem dq_188_135 : decode (qx_code 188) 135 = .ok (.aload_n 0, 1) := by decide +kernel
theorem dq_188_136 : decode (qx_code 188) 136 = .ok (.iload_n 3, 1) := by decide +kernel
theorem dq_188_137 : decode (qx_code 188) 137 = .ok (.iconst 2, 1) := by decide +kernel
theorem dq_188_138 : decode (qx_code 188) 138 = .ok (.iadd, 1) := by decide +kernel
theorem dq_188_139 : decode (qx_code 188) 139 = .ok (.iaload, 1) := by decide +kernel
theorem dq_188_140 : decode (qx_code 188) 140 = .ok (.i2l, 1) := by decide +kernel
theorem dq_188_141 : decode (qx_code 188) 141 = .ok (.ldc2_w 13, 3) := by decide +kernel
theorem dq_188_144 : decode (qx_code 188) 144 = .ok (.land, 1) := by decide +kernel
theorem dq_188_145 : decode (qx_code 188) 145 = .ok (.lor, 1) := by decide +kernel
theorem dq_188_146 : decode (qx_code 188) 146 = .ok (.aload_n 0, 1) := by decide +kernel
theorem dq_188_147 : decode (qx_code 188) 147 = .ok (.iload_n 3, 1) := by decide +kernel
theorem dq_188_148 : decode (qx_code 188) 148 = .ok (.iconst 3, 1) := by decide +kernel
theorem dq_188_149 : decode (qx_code 188) 149 = .ok (.iadd, 1) := by decide +kernel
theorem dq_188_150 : decode (qx_code 188) 150 = .ok (.iaload, 1) := by decide +kernel
theorem dq_188_151 : decode (qx_code 188) 151 = .ok (.invokevirtual 19, 3) := by decide +kernel
theorem dq_188_154 : decode (qx_code 188) 154 = .ok (.if_icmp .eq 299, 3) := by decide +kernel
theorem dq_188_157 : decode (qx_code 188) 157 = .ok (.iconst 0, 1) := by decide +kernel
theorem dq_188_158 : decode (qx_code 188) 158 = .ok (.ireturn, 1) := by decide +kernel
theorem dq_188_159 : decode (qx_code 188) 159 = .ok (.aload_n 1, 1) := by decide +kernel
theorem dq_188_160 : decode (qx_code 188) 160 = .ok (.aload_n 0, 1) := by decide +kernel
theorem dq_188_161 : decode (qx_code 188) 161 = .ok (.iload_n 3, 1) := by decide +kernel
theorem dq_188_162 : decode (qx_code 188) 162 = .ok (.iconst 1, 1) := by decide +kernel
theorem dq_188_163 : decode (qx_code 188) 163 = .ok (.iadd, 1) := by decide +kernel
theorem dq_188_164 : decode (qx_code 188) 164 = .ok (.iaload, 1) := by decide +kernel
theorem dq_188_165 : decode (qx_code 188) 165 = .ok (.aload_n 0, 1) := by decide +kernel
theorem dq_188_166 : decode (qx_code 188) 166 = .ok (.iload_n 3, 1) := by decide +kernel
theorem dq_188_167 : decode (qx_code 188) 167 = .ok (.iconst 2, 1) := by decide +kernel
theorem dq_188_168 : decode (qx_code 188) 168 = .ok (.iadd, 1) := by decide +kernel
theorem dq_188_169 : decode (qx_code 188) 169 = .ok (.iaload, 1) := by decide +kernel
theorem dq_188_170 : decode (qx_code 188) 170 = .ok (.invokevirtual 20, 3) := by decide +kernel
theorem dq_188_173 : decode (qx_code 188) 173 = .ok (.aload_n 2, 1) := by decide +kernel
theorem dq_188_174 : decode (qx_code 188) 174 = .ok (.aload_n 0, 1) := by decide +kernel
theorem dq_188_175 : decode (qx_code 188) 175 = .ok (.iload_n 3, 1) := by decide +kernel
theorem dq_188_176 : decode (qx_code 188) 176 = .ok (.iconst 1, 1) := by decide +kernel
theorem dq_188_177 : decode (qx_code 188) 177 = .ok (.iadd, 1) := by decide +kernel
theorem dq_188_178 : decode (qx_code 188) 178 = .ok (.iaload, 1) := by decide +kernel
theorem dq_188_179 : decode (qx_code 188) 179 = .ok (.aload_n 0, 1) := by decide +kernel
theorem dq_188_180 : decode (qx_code 188) 180 = .ok (.iload_n 3, 1) := by decide +kernel
theorem dq_188_181 : decode (qx_code 188) 181 = .ok (.iconst 2, 1) := by decide +kernel
theorem dq_188_182 : decode (qx_code 188) 182 = .ok (.iadd, 1) := by decide +kernel
theorem dq_188_183 : decode (qx_code 188) 183 = .ok (.iaload, 1) := by decide +kernel
theorem dq_188_184 : decode (qx_code 188) 184 = .ok (.invokevirtual 24, 3) := by decide +kernel
theorem dq_188_187 : decode (qx_code 188) 187 = .ok (.if_icmp .eq 266, 3) := by decide +kernel
theorem dq_188_190 : decode (qx_code 188) 190 = .ok (.iconst 0, 1) := by decide +kernel
theorem dq_188_191 : decode (qx_code 188) 191 = .ok (.ireturn, 1) := by decide +kernel
theorem dq_188_192 : decode (qx_code 188) 192 = .ok (.aload_n 1, 1) := by decide +kernel
theorem dq_188_193 : decode (qx_code 188) 193 = .ok (.invokevirtual 25, 3) := by decide +kernel
theorem dq_188_196 : decode (qx_code 188) 196 = .ok (.aload_n 2, 1) := by decide +kernel
theorem dq_188_197 : decode (qx_code 188) 197 = .ok (.invokevirtual 29, 3) := by decide +kernel
theorem dq_188_200 : decode (qx_code 188) 200 = .ok (.if_icmp .eq 253, 3) := by decide +kernel
theorem dq_188_203 : decode (qx_code 188) 203 = .ok (.iconst 0, 1) := by decide +kernel
theorem dq_188_204 : decode (qx_code 188) 204 = .ok (.ireturn, 1) := by decide +kernel
theorem dq_188_205 : decode (qx_code 188) 205 = .ok (.aload_n 1, 1) := by decide +kernel
theorem dq_188_206 : decode (qx_code 188) 206 = .ok (.invokevirtual 30, 3) := by decide +kernel
theorem dq_188_209 : decode (qx_code 188) 209 = .ok (.aload_n 2, 1) := by decide +kernel
theorem dq_188_210 : decode (qx_code 188) 210 = .ok (.invokevirtual 33, 3) := by decide +kernel
theorem dq_188_213 : decode (qx_code 188) 213 = .ok (.if_icmp .eq 240, 3) := by decide +kernel
theorem dq_188_216 : decode (qx_code 188) 216 = .ok (.iconst 0, 1) := by decide +kernel
theorem dq_188_217 : decode (qx_code 188) 217 = .ok (.ireturn, 1) := by decide +kernel
theorem dq_188_218 : decode (qx_code 188) 218 = .ok (.aload_n 1, 1) := by decide +kernel
theorem dq_188_219 : decode (qx_code 188) 219 = .ok (.invokevirtual 34, 3) := by decide +kernel
theorem dq_188_222 : decode (qx_code 188) 222 = .ok (.aload_n 2, 1) := by decide +kernel
theorem dq_188_223 : decode (qx_code 188) 223 = .ok (.invokevirtual 37, 3) := by decide +kernel
theorem dq_188_226 : decode (qx_code 188) 226 = .ok (.if_icmp .eq 227, 3) := by decide +kernel
theorem dq_188_229 : decode (qx_code 188) 229 = .ok (.iconst 0, 1) := by decide +kernel
theorem dq_188_230 : decode (qx_code 188) 230 = .ok (.ireturn, 1) := by decide +kernel
theorem dq_188_231 : decode (qx_code 188) 231 = .ok (.aload_n 1, 1) := by decide +kernel
theorem dq_188_232 : decode (qx_code 188) 232 = .ok (.aload_n 0, 1) := by decide +kernel
theorem dq_188_233 : decode (qx_code 188) 233 = .ok (.iload_n 3, 1) := by decide +kernel
theorem dq_188_234 : decode (qx_code 188) 234 = .ok (.iconst 1, 1) := by decide +kernel
theorem dq_188_235 : decode (qx_code 188) 235 = .ok (.iadd, 1) := by decide +kernel
theorem dq_188_236 : decode (qx_code 188) 236 = .ok (.iaload, 1) := by decide +kernel
theorem dq_188_237 : decode (qx_code 188) 237 = .ok (.invokevirtual 38, 3) := by decide +kernel
theorem dq_188_240 : decode (qx_code 188) 240 = .ok (.aload_n 2, 1) := by decide +kernel
theorem dq_188_241 : decode (qx_code 188) 241 = .ok (.aload_n 0, 1) := by decide +kernel
theorem dq_188_242 : decode (qx_code 188) 242 = .ok (.iload_n 3, 1) := by decide +kernel
theorem dq_188_243 : decode (qx_code 188) 243 = .ok (.iconst 1, 1) := by decide +kernel
theorem dq_188_244 : decode (qx_code 188) 244 = .ok (.iadd, 1) := by decide +kernel
theorem dq_188_245 : decode (qx_code 188) 245 = .ok (.iaload, 1) := by decide +kernel
theorem dq_188_246 : decode (qx_code 188) 246 = .ok (.invokevirtual 42, 3) := by decide +kernel
theorem dq_188_249 : decode (qx_code 188) 249 = .ok (.if_icmp .eq 204, 3) := by decide +kernel
theorem dq_188_252 : decode (qx_code 188) 252 = .ok (.iconst 0, 1) := by decide +kernel
theorem dq_188_253 : decode (qx_code 188) 253 = .ok (.ireturn, 1) := by decide +kernel
theorem dq_188_254 : decode (qx_code 188) 254 = .ok (.aload_n 1, 1) := by decide +kernel
theorem dq_188_255 : decode (qx_code 188) 255 = .ok (.aload_n 0, 1) := by decide +kernel
theorem dq_188_256 : decode (qx_code 188) 256 = .ok (.iload_n 3, 1) := by decide +kernel
theorem dq_188_257 : decode (qx_code 188) 257 = .ok (.iconst 1, 1) := by decide +kernel
theorem dq_188_258 : decode (qx_code 188) 258 = .ok (.iadd, 1) := by decide +kernel
theorem dq_188_259 : decode (qx_code 188) 259 = .ok (.iaload, 1) := by decide +kernel
theorem dq_188_260 : decode (qx_code 188) 260 = .ok (.aload_n 0, 1) := by decide +kernel
theorem dq_188_261 : decode (qx_code 188) 261 = .ok (.iload_n 3, 1) := by decide +kernel
theorem dq_188_262 : decode (qx_code 188) 262 = .ok (.iconst 2, 1) := by decide +kernel
theorem dq_188_263 : decode (qx_code 188) 263 = .ok (.iadd, 1) := by decide +kernel
theorem dq_188_264 : decode (qx_code 188) 264 = .ok (.iaload, 1) := by decide +kernel
theorem dq_188_265 : decode (qx_code 188) 265 = .ok (.invokevirtual 43, 3) := by decide +kernel
theorem dq_188_268 : decode (qx_code 188) 268 = .ok (.aload_n 2, 1) := by decide +kernel
theorem dq_188_269 : decode (qx_code 188) 269 = .ok (.aload_n 0, 1) := by decide +kernel
theorem dq_188_270 : decode (qx_code 188) 270 = .ok (.iload_n 3, 1) := by decide +kernel
theorem dq_188_271 : decode (qx_code 188) 271 = .ok (.iconst 1, 1) := by decide +kernel
theorem dq_188_272 : decode (qx_code 188) 272 = .ok (.iadd, 1) := by decide +kernel
theorem dq_188_273 : decode (qx_code 188) 273 = .ok (.iaload, 1) := by decide +kernel
theorem dq_188_274 : decode (qx_code 188) 274 = .ok (.aload_n 0, 1) := by decide +kernel
theorem dq_188_275 : decode (qx_code 188) 275 = .ok (.iload_n 3, 1) := by decide +kernel
theorem dq_188_276 : decode (qx_code 188) 276 = .ok (.iconst 2, 1) := by decide +kernel
theorem dq_188_277 : decode (qx_code 188) 277 = .ok (.iadd, 1) := by decide +kernel
theorem dq_188_278 : decode (qx_code 188) 278 = .ok (.iaload, 1) := by decide +kernel
theorem dq_188_279 : decode (qx_code 188) 279 = .ok (.invokevirtual 46, 3) := by decide +kernel
theorem dq_188_282 : decode (qx_code 188) 282 = .ok (.if_icmp .eq 171, 3) := by decide +kernel
theorem dq_188_285 : decode (qx_code 188) 285 = .ok (.iconst 0, 1) := by decide +kernel
theorem dq_188_286 : decode (qx_code 188) 286 = .ok (.ireturn, 1) := by decide +kernel
theorem dq_188_287 : decode (qx_code 188) 287 = .ok (.aload_n 1, 1) := by decide +kernel
theorem dq_188_288 : decode (qx_code 188) 288 = .ok (.aload_n 0, 1) := by decide +kernel
theorem dq_188_289 : decode (qx_code 188) 289 = .ok (.iload_n 3, 1) := by decide +kernel
theorem dq_188_290 : decode (qx_code 188) 290 = .ok (.iconst 1, 1) := by decide +kernel
theorem dq_188_291 : decode (qx_code 188) 291 = .ok (.iadd, 1) := by decide +kernel
theorem dq_188_292 : decode (qx_code 188) 292 = .ok (.iaload, 1) := by decide +kernel
theorem dq_188_293 : decode (qx_code 188) 293 = .ok (.aload_n 0, 1) := by decide +kernel
theorem dq_188_294 : decode (qx_code 188) 294 = .ok (.iload_n 3, 1) := by decide +kernel
theorem dq_188_295 : decode (qx_code 188) 295 = .ok (.iconst 2, 1) := by decide +kernel
theorem dq_188_296 : decode (qx_code 188) 296 = .ok (.iadd, 1) := by decide +kernel
theorem dq_188_297 : decode (qx_code 188) 297 = .ok (.iaload, 1) := by decide +kernel
theorem dq_188_298 : decode (qx_code 188) 298 = .ok (.aload_n 0, 1) := by decide +kernel
theorem dq_188_299 : decode (qx_code 188) 299 = .ok (.iload_n 3, 1) := by decide +kernel
theorem dq_188_300 : decode (qx_code 188) 300 = .ok (.iconst 3, 1) := by decide +kernel
theorem dq_188_301 : decode (qx_code 188) 301 = .ok (.iadd, 1) := by decide +kernel
theorem dq_188_302 : decode (qx_code 188) 302 = .ok (.iaload, 1) := by decide +kernel
theorem dq_188_303 : decode (qx_code 188) 303 = .ok (.invokevirtual 47, 3) := by decide +kernel
theorem dq_188_306 : decode (qx_code 188) 306 = .ok (.aload_n 2, 1) := by decide +kernel
theorem dq_188_307 : decode (qx_code 188) 307 = .ok (.aload_n 0, 1) := by decide +kernel
theorem dq_188_308 : decode (qx_code 188) 308 = .ok (.iload_n 3, 1) := by decide +kernel
theorem dq_188_309 : decode (qx_code 188) 309 = .ok (.iconst 1, 1) := by decide +kernel
theorem dq_188_310 : decode (qx_code 188) 310 = .ok (.iadd, 1) := by decide +kernel
theorem dq_188_311 : decode (qx_code 188) 311 = .ok (.iaload, 1) := by decide +kernel
theorem dq_188_312 : decode (qx_code 188) 312 = .ok (.aload_n 0, 1) := by decide +kernel
theorem dq_188_313 : decode (qx_code 188) 313 = .ok (.iload_n 3, 1) := by decide +kernel
theorem dq_188_314 : decode (qx_code 188) 314 = .ok (.iconst 2, 1) := by decide +kernel
theorem dq_188_315 : decode (qx_code 188) 315 = .ok (.iadd, 1) := by decide +kernel
theorem dq_188_316 : decode (qx_code 188) 316 = .ok (.iaload, 1) := by decide +kernel
theorem dq_188_317 : decode (qx_code 188) 317 = .ok (.aload_n 0, 1) := by decide +kernel
theorem dq_188_318 : decode (qx_code 188) 318 = .ok (.iload_n 3, 1) := by decide +kernel
theorem dq_188_319 : decode (qx_code 188) 319 = .ok (.iconst 3, 1) := by decide +kernel
theorem dq_188_320 : decode (qx_code 188) 320 = .ok (.iadd, 1) := by decide +kernel
theorem dq_188_321 : decode (qx_code 188) 321 = .ok (.iaload, 1) := by decide +kernel
theorem dq_188_322 : decode (qx_code 188) 322 = .ok (.invokevirtual 51, 3) := by decide +kernel
theorem dq_188_325 : decode (qx_code 188) 325 = .ok (.if_icmp .eq 128, 3) := by decide +kernel
theorem dq_188_328 : decode (qx_code 188) 328 = .ok (.iconst 0, 1) := by decide +kernel
theorem dq_188_329 : decode (qx_code 188) 329 = .ok (.ireturn, 1) := by decide +kernel
theorem dq_188_330 : decode (qx_code 188) 330 = .ok (.aload_n 1, 1) := by decide +kernel
theorem dq_188_331 : decode (qx_code 188) 331 = .ok (.aload_n 0, 1) := by decide +kernel
theorem dq_188_332 : decode (qx_code 188) 332 = .ok (.iload_n 3, 1) := by decide +kernel
theorem dq_188_333 : decode (qx_code 188) 333 = .ok (.iconst 1, 1) := by decide +kernel
theorem dq_188_334 : decode (qx_code 188) 334 = .ok (.iadd, 1) := by decide +kernel
theorem dq_188_335 : decode (qx_code 188) 335 = .ok (.iaload, 1) := by decide +kernel
theorem dq_188_336 : decode (qx_code 188) 336 = .ok (.invokevirtual 52, 3) := by decide +kernel
theorem dq_188_339 : decode (qx_code 188) 339 = .ok (.aload_n 2, 1) := by decide +kernel
theorem dq_188_340 : decode (qx_code 188) 340 = .ok (.aload_n 0, 1) := by decide +kernel
theorem dq_188_341 : decode (qx_code 188) 341 = .ok (.iload_n 3, 1) := by decide +kernel
theorem dq_188_342 : decode (qx_code 188) 342 = .ok (.iconst 1, 1) := by decide +kernel
theorem dq_188_343 : decode (qx_code 188) 343 = .ok (.iadd, 1) := by decide +kernel
theorem dq_188_344 : decode (qx_code 188) 344 = .ok (.iaload, 1) := by decide +kernel
theorem dq_188_345 : decode (qx_code 188) 345 = .ok (.invokevirtual 55, 3) := by decide +kernel
theorem dq_188_348 : decode (qx_code 188) 348 = .ok (.if_icmp .eq 105, 3) := by decide +kernel
theorem dq_188_351 : decode (qx_code 188) 351 = .ok (.iconst 0, 1) := by decide +kernel
theorem dq_188_352 : decode (qx_code 188) 352 = .ok (.ireturn, 1) := by decide +kernel
theorem dq_188_353 : decode (qx_code 188) 353 = .ok (.aload_n 1, 1) := by decide +kernel
theorem dq_188_354 : decode (qx_code 188) 354 = .ok (.aload_n 0, 1) := by decide +kernel
theorem dq_188_355 : decode (qx_code 188) 355 = .ok (.iload_n 3, 1) := by decide +kernel
theorem dq_188_356 : decode (qx_code 188) 356 = .ok (.iconst 1, 1) := by decide +kernel
theorem dq_188_357 : decode (qx_code 188) 357 = .ok (.iadd, 1) := by decide +kernel
theorem dq_188_358 : decode (qx_code 188) 358 = .ok (.iaload, 1) := by decide +kernel
theorem dq_188_359 : decode (qx_code 188) 359 = .ok (.aload_n 0, 1) := by decide +kernel
theorem dq_188_360 : decode (qx_code 188) 360 = .ok (.iload_n 3, 1) := by decide +kernel
theorem dq_188_361 : decode (qx_code 188) 361 = .ok (.iconst 2, 1) := by decide +kernel
theorem dq_188_362 : decode (qx_code 188) 362 = .ok (.iadd, 1) := by decide +kernel
theorem dq_188_363 : decode (qx_code 188) 363 = .ok (.iaload, 1) := by decide +kernel
theorem dq_188_364 : decode (qx_code 188) 364 = .ok (.aload_n 0, 1) := by decide +kernel
theorem dq_188_365 : decode (qx_code 188) 365 = .ok (.iload_n 3, 1) := by decide +kernel
theorem dq_188_366 : decode (qx_code 188) 366 = .ok (.iconst 3, 1) := by decide +kernel
theorem dq_188_367 : decode (qx_code 188) 367 = .ok (.iadd, 1) := by decide +kernel
theorem dq_188_368 : decode (qx_code 188) 368 = .ok (.iaload, 1) := by decide +kernel
theorem dq_188_369 : decode (qx_code 188) 369 = .ok (.invokevirtual 56, 3) := by decide +kernel
theorem dq_188_372 : decode (qx_code 188) 372 = .ok (.aload_n 2, 1) := by decide +kernel
theorem dq_188_373 : decode (qx_code 188) 373 = .ok (.aload_n 0, 1) := by decide +kernel
theorem dq_188_374 : decode (qx_code 188) 374 = .ok (.iload_n 3, 1) := by decide +kernel
theorem dq_188_375 : decode (qx_code 188) 375 = .ok (.iconst 1, 1) := by decide +kernel
theorem dq_188_376 : decode (qx_code 188) 376 = .ok (.iadd, 1) := by decide +kernel
theorem dq_188_377 : decode (qx_code 188) 377 = .ok (.iaload, 1) := by decide +kernel
theorem dq_188_378 : decode (qx_code 188) 378 = .ok (.aload_n 0, 1) := by decide +kernel
theorem dq_188_379 : decode (qx_code 188) 379 = .ok (.iload_n 3, 1) := by decide +kernel
theorem dq_188_380 : decode (qx_code 188) 380 = .ok (.iconst 2, 1) := by decide +kernel
theorem dq_188_381 : decode (qx_code 188) 381 = .ok (.iadd, 1) := by decide +kernel
theorem dq_188_382 : decode (qx_code 188) 382 = .ok (.iaload, 1) := by decide +kernel
theorem dq_188_383 : decode (qx_code 188) 383 = .ok (.aload_n 0, 1) := by decide +kernel
theorem dq_188_384 : decode (qx_code 188) 384 = .ok (.iload_n 3, 1) := by decide +kernel
theorem dq_188_385 : decode (qx_code 188) 385 = .ok (.iconst 3, 1) := by decide +kernel
theorem dq_188_386 : decode (qx_code 188) 386 = .ok (.iadd, 1) := by decide +kernel
theorem dq_188_387 : decode (qx_code 188) 387 = .ok (.iaload, 1) := by decide +kernel
theorem dq_188_388 : decode (qx_code 188) 388 = .ok (.invokevirtual 59, 3) := by decide +kernel
theorem dq_188_391 : decode (qx_code 188) 391 = .ok (.if_icmp .eq 62, 3) := by decide +kernel
theorem dq_188_394 : decode (qx_code 188) 394 = .ok (.iconst 0, 1) := by decide +kernel
theorem dq_188_395 : decode (qx_code 188) 395 = .ok (.ireturn, 1) := by decide +kernel
theorem dq_188_396 : decode (qx_code 188) 396 = .ok (.aload_n 1, 1) := by decide +kernel
theorem dq_188_397 : decode (qx_code 188) 397 = .ok (.aload_n 0, 1) := by decide +kernel
theorem dq_188_398 : decode (qx_code 188) 398 = .ok (.iload_n 3, 1) := by decide +kernel
theorem dq_188_399 : decode (qx_code 188) 399 = .ok (.iconst 1, 1) := by decide +kernel
theorem dq_188_400 : decode (qx_code 188) 400 = .ok (.iadd, 1) := by decide +kernel
theorem dq_188_401 : decode (qx_code 188) 401 = .ok (.iaload, 1) := by decide +kernel
theorem dq_188_402 : decode (qx_code 188) 402 = .ok (.invokevirtual 60, 3) := by decide +kernel
theorem dq_188_405 : decode (qx_code 188) 405 = .ok (.aload_n 2, 1) := by decide +kernel
theorem dq_188_406 : decode (qx_code 188) 406 = .ok (.aload_n 0, 1) := by decide +kernel
theorem dq_188_407 : decode (qx_code 188) 407 = .ok (.iload_n 3, 1) := by decide +kernel
theorem dq_188_408 : decode (qx_code 188) 408 = .ok (.iconst 1, 1) := by decide +kernel
theorem dq_188_409 : decode (qx_code 188) 409 = .ok (.iadd, 1) := by decide +kernel
theorem dq_188_410 : decode (qx_code 188) 410 = .ok (.iaload, 1) := by decide +kernel
theorem dq_188_411 : decode (qx_code 188) 411 = .ok (.invokevirtual 64, 3) := by decide +kernel
theorem dq_188_414 : decode (qx_code 188) 414 = .ok (.lcmp, 1) := by decide +kernel
theorem dq_188_415 : decode (qx_code 188) 415 = .ok (.ifCond .eq 38, 3) := by decide +kernel
theorem dq_188_418 : decode (qx_code 188) 418 = .ok (.iconst 0, 1) := by decide +kernel
theorem dq_188_419 : decode (qx_code 188) 419 = .ok (.ireturn, 1) := by decide +kernel
theorem dq_188_420 : decode (qx_code 188) 420 = .ok (.aload_n 1, 1) := by decide +kernel
theorem dq_188_421 : decode (qx_code 188) 421 = .ok (.aload_n 0, 1) := by decide +kernel
theorem dq_188_422 : decode (qx_code 188) 422 = .ok (.iload_n 3, 1) := by decide +kernel
theorem dq_188_423 : decode (qx_code 188) 423 = .ok (.iconst 1, 1) := by decide +kernel
theorem dq_188_424 : decode (qx_code 188) 424 = .ok (.iadd, 1) := by decide +kernel
theorem dq_188_425 : decode (qx_code 188) 425 = .ok (.iaload, 1) := by decide +kernel
theorem dq_188_426 : decode (qx_code 188) 426 = .ok (.aload_n 0, 1) := by decide +kernel
theorem dq_188_427 : decode (qx_code 188) 427 = .ok (.iload_n 3, 1) := by decide +kernel
theorem dq_188_428 : decode (qx_code 188) 428 = .ok (.iconst 2, 1) := by decide +kernel
theorem dq_188_429 : decode (qx_code 188) 429 = .ok (.iadd, 1) := by decide +kernel
theorem dq_188_430 : decode (qx_code 188) 430 = .ok (.iaload, 1) := by decide +kernel
theorem dq_188_431 : decode (qx_code 188) 431 = .ok (.invokevirtual 65, 3) := by decide +kernel
theorem dq_188_434 : decode (qx_code 188) 434 = .ok (.aload_n 2, 1) := by decide +kernel
theorem dq_188_435 : decode (qx_code 188) 435 = .ok (.aload_n 0, 1) := by decide +kernel
theorem dq_188_436 : decode (qx_code 188) 436 = .ok (.iload_n 3, 1) := by decide +kernel
theorem dq_188_437 : decode (qx_code 188) 437 = .ok (.iconst 1, 1) := by decide +kernel
theorem dq_188_438 : decode (qx_code 188) 438 = .ok (.iadd, 1) := by decide +kernel
theorem dq_188_439 : decode (qx_code 188) 439 = .ok (.iaload, 1) := by decide +kernel
theorem dq_188_440 : decode (qx_code 188) 440 = .ok (.aload_n 0, 1) := by decide +kernel
theorem dq_188_441 : decode (qx_code 188) 441 = .ok (.iload_n 3, 1) := by decide +kernel
theorem dq_188_442 : decode (qx_code 188) 442 = .ok (.iconst 2, 1) := by decide +kernel
theorem dq_188_443 : decode (qx_code 188) 443 = .ok (.iadd, 1) := by decide +kernel
theorem dq_188_444 : decode (qx_code 188) 444 = .ok (.iaload, 1) := by decide +kernel
theorem dq_188_445 : decode (qx_code 188) 445 = .ok (.invokevirtual 68, 3) := by decide +kernel
theorem dq_188_448 : decode (qx_code 188) 448 = .ok (.if_icmp .eq 5, 3) := by decide +kernel
theorem dq_188_451 : decode (qx_code 188) 451 = .ok (.iconst 0, 1) := by decide +kernel
theorem dq_188_452 : decode (qx_code 188) 452 = .ok (.ireturn, 1) := by decide +kernel
theorem dq_188_453 : decode (qx_code 188) 453 = .ok (.iinc 3 4, 3) := by decide +kernel
theorem dq_188_456 : decode (qx_code 188) 456 = .ok (.goto (-438), 3) := by decide +kernel
theorem dq_188_459 : decode (qx_code 188) 459 = .ok (.iconst 1, 1) := by decide +kernel
theorem dq_188_460 : decode (qx_code 188) 460 = .ok (.ireturn, 1) := by decide +kernel
theorem mt_188_9 : qx_mth 188 9 = some (0, 0) := by decide +kernel
theorem mt_188_12 : qx_mth 188 12 = some (122, 0) := by decide +kernel
theorem mt_188_15 : qx_mth 188 15 = some (4, 2) := by decide +kernel
theorem mt_188_19 : qx_mth 188 19 = some (123, 2) := by decide +kernel
theorem mt_188_20 : qx_mth 188 20 = some (5, 2) := by decide +kernel
theorem mt_188_24 : qx_mth 188 24 = some (124, 2) := by decide +kernel
theorem mt_188_25 : qx_mth 188 25 = some (6, 0) := by decide +kernel
theorem mt_188_29 : qx_mth 188 29 = some (125, 0) := by decide +kernel
theorem mt_188_30 : qx_mth 188 30 = some (7, 0) := by decide +kernel
theorem mt_188_33 : qx_mth 188 33 = some (126, 0) := by decide +kernel
theorem mt_188_34 : qx_mth 188 34 = some (106, 0) := by decide +kernel
theorem mt_188_37 : qx_mth 188 37 = some (173, 0) := by decide +kernel
theorem mt_188_38 : qx_mth 188 38 = some (107, 1) := by decide +kernel
theorem mt_188_42 : qx_mth 188 42 = some (174, 1) := by decide +kernel
theorem mt_188_43 : qx_mth 188 43 = some (111, 2) := by decide +kernel
theorem mt_188_46 : qx_mth 188 46 = some (175, 2) := by decide +kernel
theorem mt_188_47 : qx_mth 188 47 = some (114, 3) := by decide +kernel
theorem mt_188_51 : qx_mth 188 51 = some (178, 3) := by decide +kernel
theorem mt_188_52 : qx_mth 188 52 = some (117, 1) := by decide +kernel
theorem mt_188_55 : qx_mth 188 55 = some (183, 1) := by decide +kernel
theorem mt_188_56 : qx_mth 188 56 = some (118, 3) := by decide +kernel
theorem mt_188_59 : qx_mth 188 59 = some (184, 3) := by decide +kernel
theorem mt_188_60 : qx_mth 188 60 = some (119, 1) := by decide +kernel
theorem mt_188_64 : qx_mth 188 64 = some (185, 1) := by decide +kernel
theorem mt_188_65 : qx_mth 188 65 = some (121, 2) := by decide +kernel
theorem mt_188_68 : qx_mth 188 68 = some (187, 2) := by decide +kernel
