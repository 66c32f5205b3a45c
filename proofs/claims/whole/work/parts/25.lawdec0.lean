theorem d_Law_law_0 : decode code 0 = .ok (.new 7, 3) := by decide +kernel
theorem d_Law_law_3 : decode code 3 = .ok (.dup, 1) := by decide +kernel
theorem d_Law_law_4 : decode code 4 = .ok (.aload_n 0, 1) := by decide +kernel
theorem d_Law_law_5 : decode code 5 = .ok (.iconst 0, 1) := by decide +kernel
theorem d_Law_law_6 : decode code 6 = .ok (.invokestatic 9, 3) := by decide +kernel
theorem d_Law_law_9 : decode code 9 = .ok (.aload_n 0, 1) := by decide +kernel
theorem d_Law_law_10 : decode code 10 = .ok (.iconst 1, 1) := by decide +kernel
theorem d_Law_law_11 : decode code 11 = .ok (.invokestatic 9, 3) := by decide +kernel
theorem d_Law_law_14 : decode code 14 = .ok (.aload_n 0, 1) := by decide +kernel
theorem d_Law_law_15 : decode code 15 = .ok (.iconst 2, 1) := by decide +kernel
theorem d_Law_law_16 : decode code 16 = .ok (.invokestatic 9, 3) := by decide +kernel
theorem d_Law_law_19 : decode code 19 = .ok (.invokespecial 15, 3) := by decide +kernel
theorem d_Law_law_22 : decode code 22 = .ok (.astore_n 1, 1) := by decide +kernel
theorem d_Law_law_23 : decode code 23 = .ok (.new 18, 3) := by decide +kernel
theorem d_Law_law_26 : decode code 26 = .ok (.dup, 1) := by decide +kernel
theorem d_Law_law_27 : decode code 27 = .ok (.aload_n 0, 1) := by decide +kernel
theorem d_Law_law_28 : decode code 28 = .ok (.iconst 0, 1) := by decide +kernel
theorem d_Law_law_29 : decode code 29 = .ok (.invokestatic 9, 3) := by decide +kernel
theorem d_Law_law_32 : decode code 32 = .ok (.aload_n 0, 1) := by decide +kernel
theorem d_Law_law_33 : decode code 33 = .ok (.iconst 1, 1) := by decide +kernel
theorem d_Law_law_34 : decode code 34 = .ok (.invokestatic 9, 3) := by decide +kernel
theorem d_Law_law_37 : decode code 37 = .ok (.aload_n 0, 1) := by decide +kernel
theorem d_Law_law_38 : decode code 38 = .ok (.iconst 2, 1) := by decide +kernel
theorem d_Law_law_39 : decode code 39 = .ok (.invokestatic 9, 3) := by decide +kernel
theorem d_Law_law_42 : decode code 42 = .ok (.invokespecial 20, 3) := by decide +kernel
theorem d_Law_law_45 : decode code 45 = .ok (.astore_n 2, 1) := by decide +kernel
theorem d_Law_law_46 : decode code 46 = .ok (.iconst 3, 1) := by decide +kernel
theorem d_Law_law_47 : decode code 47 = .ok (.istore_n 3, 1) := by decide +kernel
theorem d_Law_law_48 : decode code 48 = .ok (.iload_n 3, 1) := by decide +kernel
theorem d_Law_law_49 : decode code 49 = .ok (.aload_n 0, 1) := by decide +kernel
theorem d_Law_law_50 : decode code 50 = .ok (.arraylength, 1) := by decide +kernel
theorem d_Law_law_51 : decode code 51 = .ok (.bipush 7, 2) := by decide +kernel
theorem d_Law_law_53 : decode code 53 = .ok (.isub, 1) := by decide +kernel
theorem d_Law_law_54 : decode code 54 = .ok (.if_icmp .gt 552, 3) := by decide +kernel
theorem d_Law_law_57 : decode code 57 = .ok (.aload_n 0, 1) := by decide +kernel
theorem d_Law_law_58 : decode code 58 = .ok (.iload_n 3, 1) := by decide +kernel
theorem d_Law_law_59 : decode code 59 = .ok (.iaload, 1) := by decide +kernel
theorem d_Law_law_60 : decode code 60 = .ok (.bipush 15, 2) := by decide +kernel
theorem d_Law_law_62 : decode code 62 = .ok (.iand, 1) := by decide +kernel
theorem d_Law_law_63 : decode code 63 = .ok (.tableswitch 537 0 15 #[77, 120, 153, 176, 199, 222, 245, 268, 343, 356, 379, 402, 425, 448, 471, 504], 77) := by decide +kernel
theorem d_Law_law_140 : decode code 140 = .ok (.aload_n 1, 1) := by decide +kernel
theorem d_Law_law_141 : decode code 141 = .ok (.aload_n 0, 1) := by decide +kernel
theorem d_Law_law_142 : decode code 142 = .ok (.iload_n 3, 1) := by decide +kernel
theorem d_Law_law_143 : decode code 143 = .ok (.iconst 1, 1) := by decide +kernel
theorem d_Law_law_144 : decode code 144 = .ok (.iadd, 1) := by decide +kernel
theorem d_Law_law_145 : decode code 145 = .ok (.iaload, 1) := by decide +kernel
theorem d_Law_law_146 : decode code 146 = .ok (.aload_n 0, 1) := by decide +kernel
theorem d_Law_law_147 : decode code 147 = .ok (.iload_n 3, 1) := by decide +kernel
theorem d_Law_law_148 : decode code 148 = .ok (.iconst 2, 1) := by decide +kernel
theorem d_Law_law_149 : decode code 149 = .ok (.iadd, 1) := by decide +kernel
theorem d_Law_law_150 : decode code 150 = .ok (.iaload, 1) := by decide +kernel
theorem d_Law_law_151 : decode code 151 = .ok (.aload_n 0, 1) := by decide +kernel
theorem d_Law_law_152 : decode code 152 = .ok (.iload_n 3, 1) := by decide +kernel
theorem d_Law_law_153 : decode code 153 = .ok (.iconst 3, 1) := by decide +kernel
theorem d_Law_law_154 : decode code 154 = .ok (.iadd, 1) := by decide +kernel
theorem d_Law_law_155 : decode code 155 = .ok (.iaload, 1) := by decide +kernel
theorem d_Law_law_156 : decode code 156 = .ok (.invokevirtual 21, 3) := by decide +kernel
theorem d_Law_law_159 : decode code 159 = .ok (.aload_n 2, 1) := by decide +kernel
theorem d_Law_law_160 : decode code 160 = .ok (.aload_n 0, 1) := by decide +kernel
theorem d_Law_law_161 : decode code 161 = .ok (.iload_n 3, 1) := by decide +kernel
theorem d_Law_law_162 : decode code 162 = .ok (.iconst 1, 1) := by decide +kernel
theorem d_Law_law_163 : decode code 163 = .ok (.iadd, 1) := by decide +kernel
theorem d_Law_law_164 : decode code 164 = .ok (.iaload, 1) := by decide +kernel
theorem d_Law_law_165 : decode code 165 = .ok (.aload_n 0, 1) := by decide +kernel
theorem d_Law_law_166 : decode code 166 = .ok (.iload_n 3, 1) := by decide +kernel
theorem d_Law_law_167 : decode code 167 = .ok (.iconst 2, 1) := by decide +kernel
theorem d_Law_law_168 : decode code 168 = .ok (.iadd, 1) := by decide +kernel
theorem d_Law_law_169 : decode code 169 = .ok (.iaload, 1) := by decide +kernel
theorem d_Law_law_170 : decode code 170 = .ok (.aload_n 0, 1) := by decide +kernel
theorem d_Law_law_171 : decode code 171 = .ok (.iload_n 3, 1) := by decide +kernel
theorem d_Law_law_172 : decode code 172 = .ok (.iconst 3, 1) := by decide +kernel
theorem d_Law_law_173 : decode code 173 = .ok (.iadd, 1) := by decide +kernel
theorem d_Law_law_174 : decode code 174 = .ok (.iaload, 1) := by decide +kernel
theorem d_Law_law_175 : decode code 175 = .ok (.invokevirtual 25, 3) := by decide +kernel
theorem d_Law_law_178 : decode code 178 = .ok (.if_icmp .eq 422, 3) := by decide +kernel
theorem d_Law_law_181 : decode code 181 = .ok (.iconst 0, 1) := by decide +kernel
theorem d_Law_law_182 : decode code 182 = .ok (.ireturn, 1) := by decide +kernel
theorem d_Law_law_183 : decode code 183 = .ok (.aload_n 1, 1) := by decide +kernel
theorem d_Law_law_184 : decode code 184 = .ok (.aload_n 0, 1) := by decide +kernel
theorem d_Law_law_185 : decode code 185 = .ok (.iload_n 3, 1) := by decide +kernel
theorem d_Law_law_186 : decode code 186 = .ok (.iconst 1, 1) := by decide +kernel
theorem d_Law_law_187 : decode code 187 = .ok (.iadd, 1) := by decide +kernel
theorem d_Law_law_188 : decode code 188 = .ok (.iaload, 1) := by decide +kernel
theorem d_Law_law_189 : decode code 189 = .ok (.aload_n 0, 1) := by decide +kernel
theorem d_Law_law_190 : decode code 190 = .ok (.iload_n 3, 1) := by decide +kernel
theorem d_Law_law_191 : decode code 191 = .ok (.iconst 2, 1) := by decide +kernel
theorem d_Law_law_192 : decode code 192 = .ok (.iadd, 1) := by decide +kernel
theorem d_Law_law_193 : decode code 193 = .ok (.iaload, 1) := by decide +kernel
theorem d_Law_law_194 : decode code 194 = .ok (.invokevirtual 26, 3) := by decide +kernel
theorem d_Law_law_197 : decode code 197 = .ok (.aload_n 2, 1) := by decide +kernel
theorem d_Law_law_198 : decode code 198 = .ok (.aload_n 0, 1) := by decide +kernel
theorem d_Law_law_199 : decode code 199 = .ok (.iload_n 3, 1) := by decide +kernel
theorem d_Law_law_200 : decode code 200 = .ok (.iconst 1, 1) := by decide +kernel
theorem d_Law_law_201 : decode code 201 = .ok (.iadd, 1) := by decide +kernel
theorem d_Law_law_202 : decode code 202 = .ok (.iaload, 1) := by decide +kernel
theorem d_Law_law_203 : decode code 203 = .ok (.aload_n 0, 1) := by decide +kernel
theorem d_Law_law_204 : decode code 204 = .ok (.iload_n 3, 1) := by decide +kernel
theorem d_Law_law_205 : decode code 205 = .ok (.iconst 2, 1) := by decide +kernel
theorem d_Law_law_206 : decode code 206 = .ok (.iadd, 1) := by decide +kernel
theorem d_Law_law_207 : decode code 207 = .ok (.iaload, 1) := by decide +kernel
theorem d_Law_law_208 : decode code 208 = .ok (.invokevirtual 30, 3) := by decide +kernel
theorem d_Law_law_211 : decode code 211 = .ok (.if_icmp .eq 389, 3) := by decide +kernel
theorem d_Law_law_214 : decode code 214 = .ok (.iconst 0, 1) := by decide +kernel
theorem d_Law_law_215 : decode code 215 = .ok (.ireturn, 1) := by decide +kernel
theorem d_Law_law_216 : decode code 216 = .ok (.aload_n 1, 1) := by decide +kernel
theorem d_Law_law_217 : decode code 217 = .ok (.aload_n 0, 1) := by decide +kernel
theorem d_Law_law_218 : decode code 218 = .ok (.iload_n 3, 1) := by decide +kernel
theorem d_Law_law_219 : decode code 219 = .ok (.iconst 1, 1) := by decide +kernel
theorem d_Law_law_220 : decode code 220 = .ok (.iadd, 1) := by decide +kernel
theorem d_Law_law_221 : decode code 221 = .ok (.iaload, 1) := by decide +kernel
theorem d_Law_law_222 : decode code 222 = .ok (.invokevirtual 31, 3) := by decide +kernel
theorem d_Law_law_225 : decode code 225 = .ok (.aload_n 2, 1) := by decide +kernel
theorem d_Law_law_226 : decode code 226 = .ok (.aload_n 0, 1) := by decide +kernel
theorem d_Law_law_227 : decode code 227 = .ok (.iload_n 3, 1) := by decide +kernel
theorem d_Law_law_228 : decode code 228 = .ok (.iconst 1, 1) := by decide +kernel
theorem d_Law_law_229 : decode code 229 = .ok (.iadd, 1) := by decide +kernel
theorem d_Law_law_230 : decode code 230 = .ok (.iaload, 1) := by decide +kernel
theorem d_Law_law_231 : decode code 231 = .ok (.invokevirtual 35, 3) := by decide +kernel
theorem d_Law_law_234 : decode code 234 = .ok (.if_icmp .eq 366, 3) := by decide +kernel
theorem d_Law_law_237 : decode code 237 = .ok (.iconst 0, 1) := by decide +kernel
theorem d_Law_law_238 : decode code 238 = .ok (.ireturn, 1) := by decide +kernel
theorem d_Law_law_239 : decode code 239 = .ok (.aload_n 1, 1) := by decide +kernel
theorem d_Law_law_240 : decode code 240 = .ok (.aload_n 0, 1) := by decide +kernel
theorem d_Law_law_241 : decode code 241 = .ok (.iload_n 3, 1) := by decide +kernel
theorem d_Law_law_242 : decode code 242 = .ok (.iconst 1, 1) := by decide +kernel
theorem d_Law_law_243 : decode code 243 = .ok (.iadd, 1) := by decide +kernel
theorem d_Law_law_244 : decode code 244 = .ok (.iaload, 1) := by decide +kernel
theorem d_Law_law_245 : decode code 245 = .ok (.invokevirtual 36, 3) := by decide +kernel
theorem d_Law_law_248 : decode code 248 = .ok (.aload_n 2, 1) := by decide +kernel
theorem d_Law_law_249 : decode code 249 = .ok (.aload_n 0, 1) := by decide +kernel
theorem d_Law_law_250 : decode code 250 = .ok (.iload_n 3, 1) := by decide +kernel
theorem d_Law_law_251 : decode code 251 = .ok (.iconst 1, 1) := by decide +kernel
theorem d_Law_law_252 : decode code 252 = .ok (.iadd, 1) := by decide +kernel
theorem d_Law_law_253 : decode code 253 = .ok (.iaload, 1) := by decide +kernel
theorem d_Law_law_254 : decode code 254 = .ok (.invokevirtual 40, 3) := by decide +kernel
theorem d_Law_law_257 : decode code 257 = .ok (.if_icmp .eq 343, 3) := by decide +kernel
theorem d_Law_law_260 : decode code 260 = .ok (.iconst 0, 1) := by decide +kernel
theorem d_Law_law_261 : decode code 261 = .ok (.ireturn, 1) := by decide +kernel
theorem d_Law_law_262 : decode code 262 = .ok (.aload_n 1, 1) := by decide +kernel
theorem d_Law_law_263 : decode code 263 = .ok (.aload_n 0, 1) := by decide +kernel
theorem d_Law_law_264 : decode code 264 = .ok (.iload_n 3, 1) := by decide +kernel
theorem d_Law_law_265 : decode code 265 = .ok (.iconst 1, 1) := by decide +kernel
theorem d_Law_law_266 : decode code 266 = .ok (.iadd, 1) := by decide +kernel
theorem d_Law_law_267 : decode code 267 = .ok (.iaload, 1) := by decide +kernel
theorem d_Law_law_268 : decode code 268 = .ok (.invokevirtual 41, 3) := by decide +kernel
theorem d_Law_law_271 : decode code 271 = .ok (.aload_n 2, 1) := by decide +kernel
theorem d_Law_law_272 : decode code 272 = .ok (.aload_n 0, 1) := by decide +kernel
theorem d_Law_law_273 : decode code 273 = .ok (.iload_n 3, 1) := by decide +kernel
theorem d_Law_law_274 : decode code 274 = .ok (.iconst 1, 1) := by decide +kernel
theorem d_Law_law_275 : decode code 275 = .ok (.iadd, 1) := by decide +kernel
theorem d_Law_law_276 : decode code 276 = .ok (.iaload, 1) := by decide +kernel
theorem d_Law_law_277 : decode code 277 = .ok (.invokevirtual 44, 3) := by decide +kernel
theorem d_Law_law_280 : decode code 280 = .ok (.if_icmp .eq 320, 3) := by decide +kernel
theorem d_Law_law_283 : decode code 283 = .ok (.iconst 0, 1) := by decide +kernel
theorem d_Law_law_284 : decode code 284 = .ok (.ireturn, 1) := by decide +kernel
theorem d_Law_law_285 : decode code 285 = .ok (.aload_n 1, 1) := by decide +kernel
theorem d_Law_law_286 : decode code 286 = .ok (.aload_n 0, 1) := by decide +kernel
theorem d_Law_law_287 : decode code 287 = .ok (.iload_n 3, 1) := by decide +kernel
theorem d_Law_law_288 : decode code 288 = .ok (.iconst 1, 1) := by decide +kernel
theorem d_Law_law_289 : decode code 289 = .ok (.iadd, 1) := by decide +kernel
theorem d_Law_law_290 : decode code 290 = .ok (.iaload, 1) := by decide +kernel
theorem d_Law_law_291 : decode code 291 = .ok (.invokevirtual 45, 3) := by decide +kernel
theorem d_Law_law_294 : decode code 294 = .ok (.aload_n 2, 1) := by decide +kernel
theorem d_Law_law_295 : decode code 295 = .ok (.aload_n 0, 1) := by decide +kernel
theorem d_Law_law_296 : decode code 296 = .ok (.iload_n 3, 1) := by decide +kernel
theorem d_Law_law_297 : decode code 297 = .ok (.iconst 1, 1) := by decide +kernel
theorem d_Law_law_298 : decode code 298 = .ok (.iadd, 1) := by decide +kernel
theorem d_Law_law_299 : decode code 299 = .ok (.iaload, 1) := by decide +kernel
theorem d_Law_law_300 : decode code 300 = .ok (.invokevirtual 48, 3) := by decide +kernel
theorem d_Law_law_303 : decode code 303 = .ok (.if_icmp .eq 297, 3) := by decide +kernel
theorem d_Law_law_306 : decode code 306 = .ok (.iconst 0, 1) := by decide +kernel
theorem d_Law_law_307 : decode code 307 = .ok (.ireturn, 1) := by decide +kernel
theorem d_Law_law_308 : decode code 308 = .ok (.aload_n 1, 1) := by decide +kernel
theorem d_Law_law_309 : decode code 309 = .ok (.aload_n 0, 1) := by decide +kernel
theorem d_Law_law_310 : decode code 310 = .ok (.iload_n 3, 1) := by decide +kernel
theorem d_Law_law_311 : decode code 311 = .ok (.iconst 1, 1) := by decide +kernel
theorem d_Law_law_312 : decode code 312 = .ok (.iadd, 1) := by decide +kernel
theorem d_Law_law_313 : decode code 313 = .ok (.iaload, 1) := by decide +kernel
theorem d_Law_law_314 : decode code 314 = .ok (.invokevirtual 49, 3) := by decide +kernel
theorem d_Law_law_317 : decode code 317 = .ok (.aload_n 2, 1) := by decide +kernel
theorem d_Law_law_318 : decode code 318 = .ok (.aload_n 0, 1) := by decide +kernel
theorem d_Law_law_319 : decode code 319 = .ok (.iload_n 3, 1) := by decide +kernel
theorem d_Law_law_320 : decode code 320 = .ok (.iconst 1, 1) := by decide +kernel
theorem d_Law_law_321 : decode code 321 = .ok (.iadd, 1) := by decide +kernel
theorem d_Law_law_322 : decode code 322 = .ok (.iaload, 1) := by decide +kernel
theorem d_Law_law_323 : decode code 323 = .ok (.invokevirtual 52, 3) := by decide +kernel
theorem d_Law_law_326 : decode code 326 = .ok (.if_icmp .eq 274, 3) := by decide +kernel
theorem d_Law_law_329 : decode code 329 = .ok (.iconst 0, 1) := by decide +kernel
theorem d_Law_law_330 : decode code 330 = .ok (.ireturn, 1) := by decide +kernel
theorem d_Law_law_331 : decode code 331 = .ok (.aload_n 1, 1) := by decide +kernel
theorem d_Law_law_332 : decode code 332 = .ok (.aload_n 0, 1) := by decide +kernel
theorem d_Law_law_333 : decode code 333 = .ok (.iload_n 3, 1) := by decide +kernel
theorem d_Law_law_334 : decode code 334 = .ok (.iconst 1, 1) := by decide +kernel
theorem d_Law_law_335 : decode code 335 = .ok (.iadd, 1) := by decide +kernel
theorem d_Law_law_336 : decode code 336 = .ok (.iaload, 1) := by decide +kernel
theorem d_Law_law_337 : decode code 337 = .ok (.aload_n 0, 1) := by decide +kernel
theorem d_Law_law_338 : decode code 338 = .ok (.iload_n 3, 1) := by decide +kernel
theorem d_Law_law_339 : decode code 339 = .ok (.iconst 2, 1) := by decide +kernel
theorem d_Law_law_340 : decode code 340 = .ok (.iadd, 1) := by decide +kernel
theorem d_Law_law_341 : decode code 341 = .ok (.iaload, 1) := by decide +kernel
theorem d_Law_law_342 : decode code 342 = .ok (.aload_n 0, 1) := by decide +kernel
theorem d_Law_law_343 : decode code 343 = .ok (.iload_n 3, 1) := by decide +kernel
theorem d_Law_law_344 : decode code 344 = .ok (.iconst 3, 1) := by decide +kernel
theorem d_Law_law_345 : decode code 345 = .ok (.iadd, 1) := by decide +kernel
theorem d_Law_law_346 : decode code 346 = .ok (.iaload, 1) := by decide +kernel
theorem d_Law_law_347 : decode code 347 = .ok (.aload_n 0, 1) := by decide +kernel
theorem d_Law_law_348 : decode code 348 = .ok (.iload_n 3, 1) := by decide +kernel
theorem d_Law_law_349 : decode code 349 = .ok (.iconst 4, 1) := by decide +kernel
theorem d_Law_law_350 : decode code 350 = .ok (.iadd, 1) := by decide +kernel
theorem d_Law_law_351 : decode code 351 = .ok (.iaload, 1) := by decide +kernel
