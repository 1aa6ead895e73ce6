theorem dL_isWell_148 : decode cL_isWell 148 = .ok (.iand, 1) := by decide +kernel
theorem dL_isWell_149 : decode cL_isWell 149 = .ok (.iconst 1, 1) := by decide +kernel
theorem dL_isWell_150 : decode cL_isWell 150 = .ok (.if_icmp .ne 45, 3) := by decide +kernel
theorem dL_isWell_153 : decode cL_isWell 153 = .ok (.aload_n 0, 1) := by decide +kernel
theorem dL_isWell_154 : decode cL_isWell 154 = .ok (.iload 10, 2) := by decide +kernel
theorem dL_isWell_156 : decode cL_isWell 156 = .ok (.iconst 1, 1) := by decide +kernel
theorem dL_isWell_157 : decode cL_isWell 157 = .ok (.invokevirtual 40, 3) := by decide +kernel
theorem dL_isWell_160 : decode cL_isWell 160 = .ok (.iconst 1, 1) := by decide +kernel
theorem dL_isWell_161 : decode cL_isWell 161 = .ok (.if_icmp .ne 34, 3) := by decide +kernel
theorem dL_isWell_164 : decode cL_isWell 164 = .ok (.aload_n 0, 1) := by decide +kernel
theorem dL_isWell_165 : decode cL_isWell 165 = .ok (.iload 10, 2) := by decide +kernel
theorem dL_isWell_167 : decode cL_isWell 167 = .ok (.iload 9, 2) := by decide +kernel
theorem dL_isWell_169 : decode cL_isWell 169 = .ok (.invokevirtual 74, 3) := by decide +kernel
theorem dL_isWell_172 : decode cL_isWell 172 = .ok (.iconst 2, 1) := by decide +kernel
theorem dL_isWell_173 : decode cL_isWell 173 = .ok (.if_icmp .ne 22, 3) := by decide +kernel
theorem dL_isWell_176 : decode cL_isWell 176 = .ok (.aload_n 0, 1) := by decide +kernel
theorem dL_isWell_177 : decode cL_isWell 177 = .ok (.iload 9, 2) := by decide +kernel
theorem dL_isWell_179 : decode cL_isWell 179 = .ok (.iconst 3, 1) := by decide +kernel
theorem dL_isWell_180 : decode cL_isWell 180 = .ok (.invokevirtual 52, 3) := by decide +kernel
theorem dL_isWell_183 : decode cL_isWell 183 = .ok (.aload_n 0, 1) := by decide +kernel
theorem dL_isWell_184 : decode cL_isWell 184 = .ok (.iconst 4, 1) := by decide +kernel
theorem dL_isWell_185 : decode cL_isWell 185 = .ok (.invokevirtual 21, 3) := by decide +kernel
theorem dL_isWell_188 : decode cL_isWell 188 = .ok (.if_icmp .gt 7, 3) := by decide +kernel
theorem dL_isWell_191 : decode cL_isWell 191 = .ok (.iconst 1, 1) := by decide +kernel
theorem dL_isWell_192 : decode cL_isWell 192 = .ok (.goto 4, 3) := by decide +kernel
theorem dL_isWell_195 : decode cL_isWell 195 = .ok (.iconst 0, 1) := by decide +kernel
theorem dL_isWell_196 : decode cL_isWell 196 = .ok (.istore 8, 2) := by decide +kernel
theorem dL_isWell_198 : decode cL_isWell 198 = .ok (.iinc 9 1, 3) := by decide +kernel
theorem dL_isWell_201 : decode cL_isWell 201 = .ok (.goto (-173), 3) := by decide +kernel
theorem dL_isWell_204 : decode cL_isWell 204 = .ok (.iconst 0, 1) := by decide +kernel
theorem dL_isWell_205 : decode cL_isWell 205 = .ok (.istore 9, 2) := by decide +kernel
theorem dL_isWell_207 : decode cL_isWell 207 = .ok (.iload 9, 2) := by decide +kernel
theorem dL_isWell_209 : decode cL_isWell 209 = .ok (.iload 7, 2) := by decide +kernel
theorem dL_isWell_211 : decode cL_isWell 211 = .ok (.if_icmp .ge 263, 3) := by decide +kernel
theorem dL_isWell_214 : decode cL_isWell 214 = .ok (.aload_n 0, 1) := by decide +kernel
theorem dL_isWell_215 : decode cL_isWell 215 = .ok (.iload 9, 2) := by decide +kernel
theorem dL_isWell_217 : decode cL_isWell 217 = .ok (.iconst 1, 1) := by decide +kernel
theorem dL_isWell_218 : decode cL_isWell 218 = .ok (.invokevirtual 40, 3) := by decide +kernel
theorem dL_isWell_221 : decode cL_isWell 221 = .ok (.istore 10, 2) := by decide +kernel
theorem dL_isWell_223 : decode cL_isWell 223 = .ok (.aload_n 0, 1) := by decide +kernel
theorem dL_isWell_224 : decode cL_isWell 224 = .ok (.iload 9, 2) := by decide +kernel
theorem dL_isWell_226 : decode cL_isWell 226 = .ok (.invokevirtual 86, 3) := by decide +kernel
theorem dL_isWell_229 : decode cL_isWell 229 = .ok (.istore 11, 2) := by decide +kernel
theorem dL_isWell_231 : decode cL_isWell 231 = .ok (.iload 5, 2) := by decide +kernel
theorem dL_isWell_233 : decode cL_isWell 233 = .ok (.aload_n 0, 1) := by decide +kernel
theorem dL_isWell_234 : decode cL_isWell 234 = .ok (.iload 9, 2) := by decide +kernel
theorem dL_isWell_236 : decode cL_isWell 236 = .ok (.bipush 6, 2) := by decide +kernel
theorem dL_isWell_238 : decode cL_isWell 238 = .ok (.invokevirtual 40, 3) := by decide +kernel
theorem dL_isWell_241 : decode cL_isWell 241 = .ok (.iadd, 1) := by decide +kernel
theorem dL_isWell_242 : decode cL_isWell 242 = .ok (.istore 5, 2) := by decide +kernel
theorem dL_isWell_244 : decode cL_isWell 244 = .ok (.iload 6, 2) := by decide +kernel
theorem dL_isWell_246 : decode cL_isWell 246 = .ok (.iload 10, 2) := by decide +kernel
theorem dL_isWell_248 : decode cL_isWell 248 = .ok (.ifCond .ne 7, 3) := by decide +kernel
theorem dL_isWell_251 : decode cL_isWell 251 = .ok (.iconst 1, 1) := by decide +kernel
theorem dL_isWell_252 : decode cL_isWell 252 = .ok (.goto 4, 3) := by decide +kernel
theorem dL_isWell_255 : decode cL_isWell 255 = .ok (.iconst 0, 1) := by decide +kernel
theorem dL_isWell_256 : decode cL_isWell 256 = .ok (.iadd, 1) := by decide +kernel
theorem dL_isWell_257 : decode cL_isWell 257 = .ok (.istore 6, 2) := by decide +kernel
theorem dL_isWell_259 : decode cL_isWell 259 = .ok (.iload 8, 2) := by decide +kernel
theorem dL_isWell_261 : decode cL_isWell 261 = .ok (.ifCond .eq 115, 3) := by decide +kernel
theorem dL_isWell_264 : decode cL_isWell 264 = .ok (.iload 10, 2) := by decide +kernel
theorem dL_isWell_266 : decode cL_isWell 266 = .ok (.iconst 1, 1) := by decide +kernel
theorem dL_isWell_267 : decode cL_isWell 267 = .ok (.if_icmp .ne 7, 3) := by decide +kernel
theorem dL_isWell_270 : decode cL_isWell 270 = .ok (.iconst 1, 1) := by decide +kernel
theorem dL_isWell_271 : decode cL_isWell 271 = .ok (.goto 4, 3) := by decide +kernel
theorem dL_isWell_274 : decode cL_isWell 274 = .ok (.iconst 0, 1) := by decide +kernel
theorem dL_isWell_275 : decode cL_isWell 275 = .ok (.aload_n 0, 1) := by decide +kernel
theorem dL_isWell_276 : decode cL_isWell 276 = .ok (.iload 9, 2) := by decide +kernel
theorem dL_isWell_278 : decode cL_isWell 278 = .ok (.iconst 2, 1) := by decide +kernel
theorem dL_isWell_279 : decode cL_isWell 279 = .ok (.invokevirtual 40, 3) := by decide +kernel
theorem dL_isWell_282 : decode cL_isWell 282 = .ok (.ifCond .eq 7, 3) := by decide +kernel
theorem dL_isWell_285 : decode cL_isWell 285 = .ok (.iconst 1, 1) := by decide +kernel
theorem dL_isWell_286 : decode cL_isWell 286 = .ok (.goto 4, 3) := by decide +kernel
theorem dL_isWell_289 : decode cL_isWell 289 = .ok (.iconst 0, 1) := by decide +kernel
theorem dL_isWell_290 : decode cL_isWell 290 = .ok (.if_icmp .ne 86, 3) := by decide +kernel
theorem dL_isWell_293 : decode cL_isWell 293 = .ok (.iload 10, 2) := by decide +kernel
theorem dL_isWell_295 : decode cL_isWell 295 = .ok (.ifCond .ne 7, 3) := by decide +kernel
theorem dL_isWell_298 : decode cL_isWell 298 = .ok (.iconst 1, 1) := by decide +kernel
theorem dL_isWell_299 : decode cL_isWell 299 = .ok (.goto 4, 3) := by decide +kernel
theorem dL_isWell_302 : decode cL_isWell 302 = .ok (.iconst 0, 1) := by decide +kernel
theorem dL_isWell_303 : decode cL_isWell 303 = .ok (.aload_n 0, 1) := by decide +kernel
theorem dL_isWell_304 : decode cL_isWell 304 = .ok (.iload 9, 2) := by decide +kernel
theorem dL_isWell_306 : decode cL_isWell 306 = .ok (.iconst 3, 1) := by decide +kernel
theorem dL_isWell_307 : decode cL_isWell 307 = .ok (.invokevirtual 40, 3) := by decide +kernel
theorem dL_isWell_310 : decode cL_isWell 310 = .ok (.ifCond .lt 7, 3) := by decide +kernel
theorem dL_isWell_313 : decode cL_isWell 313 = .ok (.iconst 1, 1) := by decide +kernel
theorem dL_isWell_314 : decode cL_isWell 314 = .ok (.goto 4, 3) := by decide +kernel
theorem dL_isWell_317 : decode cL_isWell 317 = .ok (.iconst 0, 1) := by decide +kernel
theorem dL_isWell_318 : decode cL_isWell 318 = .ok (.if_icmp .ne 58, 3) := by decide +kernel
theorem dL_isWell_321 : decode cL_isWell 321 = .ok (.iload 10, 2) := by decide +kernel
theorem dL_isWell_323 : decode cL_isWell 323 = .ok (.iconst 2, 1) := by decide +kernel
theorem dL_isWell_324 : decode cL_isWell 324 = .ok (.if_icmp .ne 21, 3) := by decide +kernel
theorem dL_isWell_327 : decode cL_isWell 327 = .ok (.iload 11, 2) := by decide +kernel
theorem dL_isWell_329 : decode cL_isWell 329 = .ok (.bipush (-6), 2) := by decide +kernel
theorem dL_isWell_331 : decode cL_isWell 331 = .ok (.if_icmp .ne 45, 3) := by decide +kernel
theorem dL_isWell_334 : decode cL_isWell 334 = .ok (.aload_n 0, 1) := by decide +kernel
theorem dL_isWell_335 : decode cL_isWell 335 = .ok (.iload 9, 2) := by decide +kernel
theorem dL_isWell_337 : decode cL_isWell 337 = .ok (.iconst 3, 1) := by decide +kernel
theorem dL_isWell_338 : decode cL_isWell 338 = .ok (.invokevirtual 74, 3) := by decide +kernel
theorem dL_isWell_341 : decode cL_isWell 341 = .ok (.iconst 1, 1) := by decide +kernel
theorem dL_isWell_342 : decode cL_isWell 342 = .ok (.if_icmp .ne 34, 3) := by decide +kernel
theorem dL_isWell_345 : decode cL_isWell 345 = .ok (.iload 11, 2) := by decide +kernel
theorem dL_isWell_347 : decode cL_isWell 347 = .ok (.ifCond .lt 14, 3) := by decide +kernel
theorem dL_isWell_350 : decode cL_isWell 350 = .ok (.aload_n 0, 1) := by decide +kernel
theorem dL_isWell_351 : decode cL_isWell 351 = .ok (.iload 9, 2) := by decide +kernel
theorem dL_isWell_353 : decode cL_isWell 353 = .ok (.iload 11, 2) := by decide +kernel
theorem dL_isWell_355 : decode cL_isWell 355 = .ok (.invokevirtual 74, 3) := by decide +kernel
theorem dL_isWell_358 : decode cL_isWell 358 = .ok (.ifCond .ne 18, 3) := by decide +kernel
theorem dL_isWell_361 : decode cL_isWell 361 = .ok (.aload_n 0, 1) := by decide +kernel
theorem dL_isWell_362 : decode cL_isWell 362 = .ok (.iload 9, 2) := by decide +kernel
