/-! the instructions -/
theorem d_L_law_0 : decode code 0 = .ok (.new 7, 3) := by decide +kernel
theorem d_L_law_3 : decode code 3 = .ok (.dup, 1) := by decide +kernel
theorem d_L_law_4 : decode code 4 = .ok (.invokespecial 9, 3) := by decide +kernel
theorem d_L_law_7 : decode code 7 = .ok (.astore_n 1, 1) := by decide +kernel
theorem d_L_law_8 : decode code 8 = .ok (.new 10, 3) := by decide +kernel
theorem d_L_law_11 : decode code 11 = .ok (.dup, 1) := by decide +kernel
theorem d_L_law_12 : decode code 12 = .ok (.invokespecial 12, 3) := by decide +kernel
theorem d_L_law_15 : decode code 15 = .ok (.astore_n 2, 1) := by decide +kernel
theorem d_L_law_16 : decode code 16 = .ok (.iconst 0, 1) := by decide +kernel
theorem d_L_law_17 : decode code 17 = .ok (.istore_n 3, 1) := by decide +kernel
theorem d_L_law_18 : decode code 18 = .ok (.iload_n 3, 1) := by decide +kernel
theorem d_L_law_19 : decode code 19 = .ok (.aload_n 0, 1) := by decide +kernel
theorem d_L_law_20 : decode code 20 = .ok (.arraylength, 1) := by decide +kernel
theorem d_L_law_21 : decode code 21 = .ok (.iconst 4, 1) := by decide +kernel
theorem d_L_law_22 : decode code 22 = .ok (.isub, 1) := by decide +kernel
theorem d_L_law_23 : decode code 23 = .ok (.if_icmp .gt 332, 3) := by decide +kernel
theorem d_L_law_26 : decode code 26 = .ok (.aload_n 0, 1) := by decide +kernel
theorem d_L_law_27 : decode code 27 = .ok (.iload_n 3, 1) := by decide +kernel
theorem d_L_law_28 : decode code 28 = .ok (.iaload, 1) := by decide +kernel
theorem d_L_law_29 : decode code 29 = .ok (.bipush 15, 2) := by decide +kernel
theorem d_L_law_31 : decode code 31 = .ok (.iand, 1) := by decide +kernel
theorem d_L_law_32 : decode code 32 = .ok (.tableswitch 317 0 12 #[68, 111, 144, 157, 180, 193, 206, 229, 242, 265, 278, 291, 304], 68) := by decide +kernel
theorem d_L_law_100 : decode code 100 = .ok (.aload_n 1, 1) := by decide +kernel
theorem d_L_law_101 : decode code 101 = .ok (.aload_n 0, 1) := by decide +kernel
theorem d_L_law_102 : decode code 102 = .ok (.iload_n 3, 1) := by decide +kernel
theorem d_L_law_103 : decode code 103 = .ok (.iconst 1, 1) := by decide +kernel
theorem d_L_law_104 : decode code 104 = .ok (.iadd, 1) := by decide +kernel
theorem d_L_law_105 : decode code 105 = .ok (.iaload, 1) := by decide +kernel
theorem d_L_law_106 : decode code 106 = .ok (.aload_n 0, 1) := by decide +kernel
theorem d_L_law_107 : decode code 107 = .ok (.iload_n 3, 1) := by decide +kernel
theorem d_L_law_108 : decode code 108 = .ok (.iconst 2, 1) := by decide +kernel
theorem d_L_law_109 : decode code 109 = .ok (.iadd, 1) := by decide +kernel
theorem d_L_law_110 : decode code 110 = .ok (.iaload, 1) := by decide +kernel
theorem d_L_law_111 : decode code 111 = .ok (.aload_n 0, 1) := by decide +kernel
theorem d_L_law_112 : decode code 112 = .ok (.iload_n 3, 1) := by decide +kernel
theorem d_L_law_113 : decode code 113 = .ok (.iconst 3, 1) := by decide +kernel
theorem d_L_law_114 : decode code 114 = .ok (.iadd, 1) := by decide +kernel
theorem d_L_law_115 : decode code 115 = .ok (.iaload, 1) := by decide +kernel
theorem d_L_law_116 : decode code 116 = .ok (.invokevirtual 13, 3) := by decide +kernel
theorem d_L_law_119 : decode code 119 = .ok (.aload_n 2, 1) := by decide +kernel
theorem d_L_law_120 : decode code 120 = .ok (.aload_n 0, 1) := by decide +kernel
theorem d_L_law_121 : decode code 121 = .ok (.iload_n 3, 1) := by decide +kernel
theorem d_L_law_122 : decode code 122 = .ok (.iconst 1, 1) := by decide +kernel
theorem d_L_law_123 : decode code 123 = .ok (.iadd, 1) := by decide +kernel
theorem d_L_law_124 : decode code 124 = .ok (.iaload, 1) := by decide +kernel
theorem d_L_law_125 : decode code 125 = .ok (.aload_n 0, 1) := by decide +kernel
theorem d_L_law_126 : decode code 126 = .ok (.iload_n 3, 1) := by decide +kernel
theorem d_L_law_127 : decode code 127 = .ok (.iconst 2, 1) := by decide +kernel
theorem d_L_law_128 : decode code 128 = .ok (.iadd, 1) := by decide +kernel
theorem d_L_law_129 : decode code 129 = .ok (.iaload, 1) := by decide +kernel
theorem d_L_law_130 : decode code 130 = .ok (.aload_n 0, 1) := by decide +kernel
theorem d_L_law_131 : decode code 131 = .ok (.iload_n 3, 1) := by decide +kernel
theorem d_L_law_132 : decode code 132 = .ok (.iconst 3, 1) := by decide +kernel
theorem d_L_law_133 : decode code 133 = .ok (.iadd, 1) := by decide +kernel
theorem d_L_law_134 : decode code 134 = .ok (.iaload, 1) := by decide +kernel
theorem d_L_law_135 : decode code 135 = .ok (.invokevirtual 17, 3) := by decide +kernel
theorem d_L_law_138 : decode code 138 = .ok (.if_icmp .eq 211, 3) := by decide +kernel
theorem d_L_law_141 : decode code 141 = .ok (.iconst 0, 1) := by decide +kernel
theorem d_L_law_142 : decode code 142 = .ok (.ireturn, 1) := by decide +kernel
theorem d_L_law_143 : decode code 143 = .ok (.aload_n 1, 1) := by decide +kernel
theorem d_L_law_144 : decode code 144 = .ok (.aload_n 0, 1) := by decide +kernel
theorem d_L_law_145 : decode code 145 = .ok (.iload_n 3, 1) := by decide +kernel
theorem d_L_law_146 : decode code 146 = .ok (.iconst 1, 1) := by decide +kernel
theorem d_L_law_147 : decode code 147 = .ok (.iadd, 1) := by decide +kernel
theorem d_L_law_148 : decode code 148 = .ok (.iaload, 1) := by decide +kernel
theorem d_L_law_149 : decode code 149 = .ok (.aload_n 0, 1) := by decide +kernel
theorem d_L_law_150 : decode code 150 = .ok (.iload_n 3, 1) := by decide +kernel
theorem d_L_law_151 : decode code 151 = .ok (.iconst 2, 1) := by decide +kernel
theorem d_L_law_152 : decode code 152 = .ok (.iadd, 1) := by decide +kernel
theorem d_L_law_153 : decode code 153 = .ok (.iaload, 1) := by decide +kernel
theorem d_L_law_154 : decode code 154 = .ok (.invokevirtual 18, 3) := by decide +kernel
theorem d_L_law_157 : decode code 157 = .ok (.aload_n 2, 1) := by decide +kernel
theorem d_L_law_158 : decode code 158 = .ok (.aload_n 0, 1) := by decide +kernel
theorem d_L_law_159 : decode code 159 = .ok (.iload_n 3, 1) := by decide +kernel
theorem d_L_law_160 : decode code 160 = .ok (.iconst 1, 1) := by decide +kernel
theorem d_L_law_161 : decode code 161 = .ok (.iadd, 1) := by decide +kernel
theorem d_L_law_162 : decode code 162 = .ok (.iaload, 1) := by decide +kernel
theorem d_L_law_163 : decode code 163 = .ok (.aload_n 0, 1) := by decide +kernel
theorem d_L_law_164 : decode code 164 = .ok (.iload_n 3, 1) := by decide +kernel
theorem d_L_law_165 : decode code 165 = .ok (.iconst 2, 1) := by decide +kernel
theorem d_L_law_166 : decode code 166 = .ok (.iadd, 1) := by decide +kernel
theorem d_L_law_167 : decode code 167 = .ok (.iaload, 1) := by decide +kernel
theorem d_L_law_168 : decode code 168 = .ok (.invokevirtual 22, 3) := by decide +kernel
theorem d_L_law_171 : decode code 171 = .ok (.if_icmp .eq 178, 3) := by decide +kernel
theorem d_L_law_174 : decode code 174 = .ok (.iconst 0, 1) := by decide +kernel
theorem d_L_law_175 : decode code 175 = .ok (.ireturn, 1) := by decide +kernel
theorem d_L_law_176 : decode code 176 = .ok (.aload_n 1, 1) := by decide +kernel
theorem d_L_law_177 : decode code 177 = .ok (.invokevirtual 23, 3) := by decide +kernel
theorem d_L_law_180 : decode code 180 = .ok (.aload_n 2, 1) := by decide +kernel
theorem d_L_law_181 : decode code 181 = .ok (.invokevirtual 27, 3) := by decide +kernel
theorem d_L_law_184 : decode code 184 = .ok (.if_icmp .eq 165, 3) := by decide +kernel
theorem d_L_law_187 : decode code 187 = .ok (.iconst 0, 1) := by decide +kernel
theorem d_L_law_188 : decode code 188 = .ok (.ireturn, 1) := by decide +kernel
theorem d_L_law_189 : decode code 189 = .ok (.aload_n 1, 1) := by decide +kernel
theorem d_L_law_190 : decode code 190 = .ok (.aload_n 0, 1) := by decide +kernel
theorem d_L_law_191 : decode code 191 = .ok (.iload_n 3, 1) := by decide +kernel
theorem d_L_law_192 : decode code 192 = .ok (.iconst 1, 1) := by decide +kernel
theorem d_L_law_193 : decode code 193 = .ok (.iadd, 1) := by decide +kernel
theorem d_L_law_194 : decode code 194 = .ok (.iaload, 1) := by decide +kernel
theorem d_L_law_195 : decode code 195 = .ok (.invokevirtual 28, 3) := by decide +kernel
theorem d_L_law_198 : decode code 198 = .ok (.aload_n 2, 1) := by decide +kernel
theorem d_L_law_199 : decode code 199 = .ok (.aload_n 0, 1) := by decide +kernel
theorem d_L_law_200 : decode code 200 = .ok (.iload_n 3, 1) := by decide +kernel
theorem d_L_law_201 : decode code 201 = .ok (.iconst 1, 1) := by decide +kernel
theorem d_L_law_202 : decode code 202 = .ok (.iadd, 1) := by decide +kernel
theorem d_L_law_203 : decode code 203 = .ok (.iaload, 1) := by decide +kernel
theorem d_L_law_204 : decode code 204 = .ok (.invokevirtual 32, 3) := by decide +kernel
theorem d_L_law_207 : decode code 207 = .ok (.if_icmp .eq 142, 3) := by decide +kernel
theorem d_L_law_210 : decode code 210 = .ok (.iconst 0, 1) := by decide +kernel
theorem d_L_law_211 : decode code 211 = .ok (.ireturn, 1) := by decide +kernel
theorem d_L_law_212 : decode code 212 = .ok (.aload_n 1, 1) := by decide +kernel
theorem d_L_law_213 : decode code 213 = .ok (.invokevirtual 33, 3) := by decide +kernel
theorem d_L_law_216 : decode code 216 = .ok (.aload_n 2, 1) := by decide +kernel
theorem d_L_law_217 : decode code 217 = .ok (.invokevirtual 36, 3) := by decide +kernel
theorem d_L_law_220 : decode code 220 = .ok (.if_icmp .eq 129, 3) := by decide +kernel
theorem d_L_law_223 : decode code 223 = .ok (.iconst 0, 1) := by decide +kernel
theorem d_L_law_224 : decode code 224 = .ok (.ireturn, 1) := by decide +kernel
theorem d_L_law_225 : decode code 225 = .ok (.aload_n 1, 1) := by decide +kernel
theorem d_L_law_226 : decode code 226 = .ok (.invokevirtual 37, 3) := by decide +kernel
theorem d_L_law_229 : decode code 229 = .ok (.aload_n 2, 1) := by decide +kernel
theorem d_L_law_230 : decode code 230 = .ok (.invokevirtual 40, 3) := by decide +kernel
theorem d_L_law_233 : decode code 233 = .ok (.if_icmp .eq 116, 3) := by decide +kernel
theorem d_L_law_236 : decode code 236 = .ok (.iconst 0, 1) := by decide +kernel
theorem d_L_law_237 : decode code 237 = .ok (.ireturn, 1) := by decide +kernel
theorem d_L_law_238 : decode code 238 = .ok (.aload_n 1, 1) := by decide +kernel
theorem d_L_law_239 : decode code 239 = .ok (.aload_n 0, 1) := by decide +kernel
theorem d_L_law_240 : decode code 240 = .ok (.iload_n 3, 1) := by decide +kernel
theorem d_L_law_241 : decode code 241 = .ok (.iconst 1, 1) := by decide +kernel
theorem d_L_law_242 : decode code 242 = .ok (.iadd, 1) := by decide +kernel
theorem d_L_law_243 : decode code 243 = .ok (.iaload, 1) := by decide +kernel
theorem d_L_law_244 : decode code 244 = .ok (.invokevirtual 41, 3) := by decide +kernel
theorem d_L_law_247 : decode code 247 = .ok (.aload_n 2, 1) := by decide +kernel
theorem d_L_law_248 : decode code 248 = .ok (.aload_n 0, 1) := by decide +kernel
theorem d_L_law_249 : decode code 249 = .ok (.iload_n 3, 1) := by decide +kernel
theorem d_L_law_250 : decode code 250 = .ok (.iconst 1, 1) := by decide +kernel
theorem d_L_law_251 : decode code 251 = .ok (.iadd, 1) := by decide +kernel
theorem d_L_law_252 : decode code 252 = .ok (.iaload, 1) := by decide +kernel
theorem d_L_law_253 : decode code 253 = .ok (.invokevirtual 44, 3) := by decide +kernel
theorem d_L_law_256 : decode code 256 = .ok (.if_icmp .eq 93, 3) := by decide +kernel
theorem d_L_law_259 : decode code 259 = .ok (.iconst 0, 1) := by decide +kernel
theorem d_L_law_260 : decode code 260 = .ok (.ireturn, 1) := by decide +kernel
theorem d_L_law_261 : decode code 261 = .ok (.aload_n 1, 1) := by decide +kernel
theorem d_L_law_262 : decode code 262 = .ok (.invokevirtual 45, 3) := by decide +kernel
theorem d_L_law_265 : decode code 265 = .ok (.aload_n 2, 1) := by decide +kernel
theorem d_L_law_266 : decode code 266 = .ok (.invokevirtual 48, 3) := by decide +kernel
theorem d_L_law_269 : decode code 269 = .ok (.if_icmp .eq 80, 3) := by decide +kernel
theorem d_L_law_272 : decode code 272 = .ok (.iconst 0, 1) := by decide +kernel
theorem d_L_law_273 : decode code 273 = .ok (.ireturn, 1) := by decide +kernel
theorem d_L_law_274 : decode code 274 = .ok (.aload_n 1, 1) := by decide +kernel
theorem d_L_law_275 : decode code 275 = .ok (.aload_n 0, 1) := by decide +kernel
theorem d_L_law_276 : decode code 276 = .ok (.iload_n 3, 1) := by decide +kernel
theorem d_L_law_277 : decode code 277 = .ok (.iconst 1, 1) := by decide +kernel
theorem d_L_law_278 : decode code 278 = .ok (.iadd, 1) := by decide +kernel
theorem d_L_law_279 : decode code 279 = .ok (.iaload, 1) := by decide +kernel
theorem d_L_law_280 : decode code 280 = .ok (.invokevirtual 49, 3) := by decide +kernel
theorem d_L_law_283 : decode code 283 = .ok (.aload_n 2, 1) := by decide +kernel
theorem d_L_law_284 : decode code 284 = .ok (.aload_n 0, 1) := by decide +kernel
theorem d_L_law_285 : decode code 285 = .ok (.iload_n 3, 1) := by decide +kernel
theorem d_L_law_286 : decode code 286 = .ok (.iconst 1, 1) := by decide +kernel
theorem d_L_law_287 : decode code 287 = .ok (.iadd, 1) := by decide +kernel
theorem d_L_law_288 : decode code 288 = .ok (.iaload, 1) := by decide +kernel
theorem d_L_law_289 : decode code 289 = .ok (.invokevirtual 52, 3) := by decide +kernel
theorem d_L_law_292 : decode code 292 = .ok (.if_icmp .eq 57, 3) := by decide +kernel
theorem d_L_law_295 : decode code 295 = .ok (.iconst 0, 1) := by decide +kernel
theorem d_L_law_296 : decode code 296 = .ok (.ireturn, 1) := by decide +kernel
theorem d_L_law_297 : decode code 297 = .ok (.aload_n 1, 1) := by decide +kernel
theorem d_L_law_298 : decode code 298 = .ok (.invokevirtual 53, 3) := by decide +kernel
theorem d_L_law_301 : decode code 301 = .ok (.aload_n 2, 1) := by decide +kernel
theorem d_L_law_302 : decode code 302 = .ok (.invokevirtual 56, 3) := by decide +kernel
theorem d_L_law_305 : decode code 305 = .ok (.if_icmp .eq 44, 3) := by decide +kernel
theorem d_L_law_308 : decode code 308 = .ok (.iconst 0, 1) := by decide +kernel
theorem d_L_law_309 : decode code 309 = .ok (.ireturn, 1) := by decide +kernel
theorem d_L_law_310 : decode code 310 = .ok (.aload_n 1, 1) := by decide +kernel
theorem d_L_law_311 : decode code 311 = .ok (.invokevirtual 57, 3) := by decide +kernel
theorem d_L_law_314 : decode code 314 = .ok (.aload_n 2, 1) := by decide +kernel
theorem d_L_law_315 : decode code 315 = .ok (.invokevirtual 60, 3) := by decide +kernel
theorem d_L_law_318 : decode code 318 = .ok (.if_icmp .eq 31, 3) := by decide +kernel
theorem d_L_law_321 : decode code 321 = .ok (.iconst 0, 1) := by decide +kernel
theorem d_L_law_322 : decode code 322 = .ok (.ireturn, 1) := by decide +kernel
theorem d_L_law_323 : decode code 323 = .ok (.aload_n 1, 1) := by decide +kernel
theorem d_L_law_324 : decode code 324 = .ok (.invokevirtual 61, 3) := by decide +kernel
theorem d_L_law_327 : decode code 327 = .ok (.aload_n 2, 1) := by decide +kernel
theorem d_L_law_328 : decode code 328 = .ok (.invokevirtual 64, 3) := by decide +kernel
theorem d_L_law_331 : decode code 331 = .ok (.if_icmp .eq 18, 3) := by decide +kernel
theorem d_L_law_334 : decode code 334 = .ok (.iconst 0, 1) := by decide +kernel
theorem d_L_law_335 : decode code 335 = .ok (.ireturn, 1) := by decide +kernel
theorem d_L_law_336 : decode code 336 = .ok (.aload_n 1, 1) := by decide +kernel
theorem d_L_law_337 : decode code 337 = .ok (.invokevirtual 65, 3) := by decide +kernel
theorem d_L_law_340 : decode code 340 = .ok (.aload_n 2, 1) := by decide +kernel
theorem d_L_law_341 : decode code 341 = .ok (.invokevirtual 68, 3) := by decide +kernel
theorem d_L_law_344 : decode code 344 = .ok (.if_icmp .eq 5, 3) := by decide +kernel
theorem d_L_law_347 : decode code 347 = .ok (.iconst 0, 1) := by decide +kernel
theorem d_L_law_348 : decode code 348 = .ok (.ireturn, 1) := by decide +kernel
theorem d_L_law_349 : decode code 349 = .ok (.iinc 3 4, 3) := by decide +kernel
theorem d_L_law_352 : decode code 352 = .ok (.goto (-334), 3) := by decide +kernel
theorem d_L_law_355 : decode code 355 = .ok (.iconst 1, 1) := by decide +kernel
theorem d_L_law_356 : decode code 356 = .ok (.ireturn, 1) := by decide +kernel
