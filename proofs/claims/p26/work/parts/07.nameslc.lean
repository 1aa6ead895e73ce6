theorem dL_isStep_117 : decode cL_isStep 117 = .ok (.iload_n 3, 1) := by decide +kernel
theorem dL_isStep_118 : decode cL_isStep 118 = .ok (.bipush 12, 2) := by decide +kernel
theorem dL_isStep_120 : decode cL_isStep 120 = .ok (.invokestatic 9, 3) := by decide +kernel
theorem dL_isStep_123 : decode cL_isStep 123 = .ok (.goto 41, 3) := by decide +kernel
theorem dL_isStep_126 : decode cL_isStep 126 = .ok (.iload 7, 2) := by decide +kernel
theorem dL_isStep_128 : decode cL_isStep 128 = .ok (.iconst 1, 1) := by decide +kernel
theorem dL_isStep_129 : decode cL_isStep 129 = .ok (.if_icmp .ne 14, 3) := by decide +kernel
theorem dL_isStep_132 : decode cL_isStep 132 = .ok (.iconst 1, 1) := by decide +kernel
theorem dL_isStep_133 : decode cL_isStep 133 = .ok (.iload_n 3, 1) := by decide +kernel
theorem dL_isStep_134 : decode cL_isStep 134 = .ok (.bipush 6, 2) := by decide +kernel
theorem dL_isStep_136 : decode cL_isStep 136 = .ok (.invokestatic 9, 3) := by decide +kernel
theorem dL_isStep_139 : decode cL_isStep 139 = .ok (.iadd, 1) := by decide +kernel
theorem dL_isStep_140 : decode cL_isStep 140 = .ok (.goto 24, 3) := by decide +kernel
theorem dL_isStep_143 : decode cL_isStep 143 = .ok (.iload 7, 2) := by decide +kernel
theorem dL_isStep_145 : decode cL_isStep 145 = .ok (.iconst 2, 1) := by decide +kernel
theorem dL_isStep_146 : decode cL_isStep 146 = .ok (.if_icmp .ne 12, 3) := by decide +kernel
theorem dL_isStep_149 : decode cL_isStep 149 = .ok (.iload_n 3, 1) := by decide +kernel
theorem dL_isStep_150 : decode cL_isStep 150 = .ok (.bipush 10, 2) := by decide +kernel
theorem dL_isStep_152 : decode cL_isStep 152 = .ok (.invokestatic 9, 3) := by decide +kernel
theorem dL_isStep_155 : decode cL_isStep 155 = .ok (.goto 9, 3) := by decide +kernel
theorem dL_isStep_158 : decode cL_isStep 158 = .ok (.iload_n 3, 1) := by decide +kernel
theorem dL_isStep_159 : decode cL_isStep 159 = .ok (.bipush 61, 2) := by decide +kernel
theorem dL_isStep_161 : decode cL_isStep 161 = .ok (.invokestatic 9, 3) := by decide +kernel
theorem dL_isStep_164 : decode cL_isStep 164 = .ok (.istore 8, 2) := by decide +kernel
theorem dL_isStep_166 : decode cL_isStep 166 = .ok (.aload_n 0, 1) := by decide +kernel
theorem dL_isStep_167 : decode cL_isStep 167 = .ok (.iload 7, 2) := by decide +kernel
theorem dL_isStep_169 : decode cL_isStep 169 = .ok (.invokevirtual 21, 3) := by decide +kernel
theorem dL_isStep_172 : decode cL_isStep 172 = .ok (.istore 9, 2) := by decide +kernel
theorem dL_isStep_174 : decode cL_isStep 174 = .ok (.aload_n 0, 1) := by decide +kernel
theorem dL_isStep_175 : decode cL_isStep 175 = .ok (.iload 7, 2) := by decide +kernel
theorem dL_isStep_177 : decode cL_isStep 177 = .ok (.iload 8, 2) := by decide +kernel
theorem dL_isStep_179 : decode cL_isStep 179 = .ok (.invokevirtual 43, 3) := by decide +kernel
theorem dL_isStep_182 : decode cL_isStep 182 = .ok (.iload 9, 2) := by decide +kernel
theorem dL_isStep_184 : decode cL_isStep 184 = .ok (.if_icmp .ne 31, 3) := by decide +kernel
theorem dL_isStep_187 : decode cL_isStep 187 = .ok (.aload_n 1, 1) := by decide +kernel
theorem dL_isStep_188 : decode cL_isStep 188 = .ok (.iload 7, 2) := by decide +kernel
theorem dL_isStep_190 : decode cL_isStep 190 = .ok (.iload 8, 2) := by decide +kernel
theorem dL_isStep_192 : decode cL_isStep 192 = .ok (.invokevirtual 43, 3) := by decide +kernel
theorem dL_isStep_195 : decode cL_isStep 195 = .ok (.iload 9, 2) := by decide +kernel
theorem dL_isStep_197 : decode cL_isStep 197 = .ok (.if_icmp .ne 18, 3) := by decide +kernel
theorem dL_isStep_200 : decode cL_isStep 200 = .ok (.aload_n 0, 1) := by decide +kernel
theorem dL_isStep_201 : decode cL_isStep 201 = .ok (.iload 7, 2) := by decide +kernel
theorem dL_isStep_203 : decode cL_isStep 203 = .ok (.invokevirtual 21, 3) := by decide +kernel
theorem dL_isStep_206 : decode cL_isStep 206 = .ok (.iload 8, 2) := by decide +kernel
theorem dL_isStep_208 : decode cL_isStep 208 = .ok (.if_icmp .ne 7, 3) := by decide +kernel
theorem dL_isStep_211 : decode cL_isStep 211 = .ok (.iconst 1, 1) := by decide +kernel
theorem dL_isStep_212 : decode cL_isStep 212 = .ok (.goto 4, 3) := by decide +kernel
theorem dL_isStep_215 : decode cL_isStep 215 = .ok (.iconst 0, 1) := by decide +kernel
theorem dL_isStep_216 : decode cL_isStep 216 = .ok (.ireturn, 1) := by decide +kernel
theorem dL_isStep_217 : decode cL_isStep 217 = .ok (.aload_n 0, 1) := by decide +kernel
theorem dL_isStep_218 : decode cL_isStep 218 = .ok (.iload 5, 2) := by decide +kernel
theorem dL_isStep_220 : decode cL_isStep 220 = .ok (.iconst 0, 1) := by decide +kernel
theorem dL_isStep_221 : decode cL_isStep 221 = .ok (.invokevirtual 40, 3) := by decide +kernel
theorem dL_isStep_224 : decode cL_isStep 224 = .ok (.istore 7, 2) := by decide +kernel
theorem dL_isStep_226 : decode cL_isStep 226 = .ok (.aload_n 0, 1) := by decide +kernel
theorem dL_isStep_227 : decode cL_isStep 227 = .ok (.iload 5, 2) := by decide +kernel
theorem dL_isStep_229 : decode cL_isStep 229 = .ok (.iload_n 3, 1) := by decide +kernel
theorem dL_isStep_230 : decode cL_isStep 230 = .ok (.bipush 10, 2) := by decide +kernel
theorem dL_isStep_232 : decode cL_isStep 232 = .ok (.invokestatic 9, 3) := by decide +kernel
theorem dL_isStep_235 : decode cL_isStep 235 = .ok (.invokevirtual 46, 3) := by decide +kernel
theorem dL_isStep_238 : decode cL_isStep 238 = .ok (.istore 8, 2) := by decide +kernel
theorem dL_isStep_240 : decode cL_isStep 240 = .ok (.iload 8, 2) := by decide +kernel
theorem dL_isStep_242 : decode cL_isStep 242 = .ok (.aload_n 1, 1) := by decide +kernel
theorem dL_isStep_243 : decode cL_isStep 243 = .ok (.iload 5, 2) := by decide +kernel
theorem dL_isStep_245 : decode cL_isStep 245 = .ok (.iload_n 3, 1) := by decide +kernel
theorem dL_isStep_246 : decode cL_isStep 246 = .ok (.bipush 10, 2) := by decide +kernel
theorem dL_isStep_248 : decode cL_isStep 248 = .ok (.invokestatic 9, 3) := by decide +kernel
theorem dL_isStep_251 : decode cL_isStep 251 = .ok (.invokevirtual 46, 3) := by decide +kernel
theorem dL_isStep_254 : decode cL_isStep 254 = .ok (.if_icmp .ne 35, 3) := by decide +kernel
theorem dL_isStep_257 : decode cL_isStep 257 = .ok (.iload 8, 2) := by decide +kernel
theorem dL_isStep_259 : decode cL_isStep 259 = .ok (.iload 7, 2) := by decide +kernel
theorem dL_isStep_261 : decode cL_isStep 261 = .ok (.if_icmp .ne 28, 3) := by decide +kernel
theorem dL_isStep_264 : decode cL_isStep 264 = .ok (.iload 8, 2) := by decide +kernel
theorem dL_isStep_266 : decode cL_isStep 266 = .ok (.ifCond .lt 19, 3) := by decide +kernel
theorem dL_isStep_269 : decode cL_isStep 269 = .ok (.aload_n 0, 1) := by decide +kernel
theorem dL_isStep_270 : decode cL_isStep 270 = .ok (.iload 5, 2) := by decide +kernel
theorem dL_isStep_272 : decode cL_isStep 272 = .ok (.iconst 0, 1) := by decide +kernel
theorem dL_isStep_273 : decode cL_isStep 273 = .ok (.invokevirtual 40, 3) := by decide +kernel
theorem dL_isStep_276 : decode cL_isStep 276 = .ok (.iload_n 3, 1) := by decide +kernel
theorem dL_isStep_277 : decode cL_isStep 277 = .ok (.bipush 10, 2) := by decide +kernel
theorem dL_isStep_279 : decode cL_isStep 279 = .ok (.invokestatic 9, 3) := by decide +kernel
theorem dL_isStep_282 : decode cL_isStep 282 = .ok (.if_icmp .ne 7, 3) := by decide +kernel
theorem dL_isStep_285 : decode cL_isStep 285 = .ok (.iconst 1, 1) := by decide +kernel
theorem dL_isStep_286 : decode cL_isStep 286 = .ok (.goto 4, 3) := by decide +kernel
theorem dL_isStep_289 : decode cL_isStep 289 = .ok (.iconst 0, 1) := by decide +kernel
theorem dL_isStep_290 : decode cL_isStep 290 = .ok (.ireturn, 1) := by decide +kernel
theorem dL_isStep_291 : decode cL_isStep 291 = .ok (.aload_n 0, 1) := by decide +kernel
theorem dL_isStep_292 : decode cL_isStep 292 = .ok (.iload 5, 2) := by decide +kernel
theorem dL_isStep_294 : decode cL_isStep 294 = .ok (.iconst 2, 1) := by decide +kernel
theorem dL_isStep_295 : decode cL_isStep 295 = .ok (.invokevirtual 40, 3) := by decide +kernel
theorem dL_isStep_298 : decode cL_isStep 298 = .ok (.istore 7, 2) := by decide +kernel
theorem dL_isStep_300 : decode cL_isStep 300 = .ok (.aload_n 0, 1) := by decide +kernel
theorem dL_isStep_301 : decode cL_isStep 301 = .ok (.iload 5, 2) := by decide +kernel
theorem dL_isStep_303 : decode cL_isStep 303 = .ok (.iconst 1, 1) := by decide +kernel
theorem dL_isStep_304 : decode cL_isStep 304 = .ok (.invokevirtual 40, 3) := by decide +kernel
theorem dL_isStep_307 : decode cL_isStep 307 = .ok (.istore 8, 2) := by decide +kernel
theorem dL_isStep_309 : decode cL_isStep 309 = .ok (.aload_n 0, 1) := by decide +kernel
theorem dL_isStep_310 : decode cL_isStep 310 = .ok (.bipush 8, 2) := by decide +kernel
theorem dL_isStep_312 : decode cL_isStep 312 = .ok (.invokevirtual 21, 3) := by decide +kernel
theorem dL_isStep_315 : decode cL_isStep 315 = .ok (.istore 9, 2) := by decide +kernel
theorem dL_isStep_317 : decode cL_isStep 317 = .ok (.iload_n 3, 1) := by decide +kernel
theorem dL_isStep_318 : decode cL_isStep 318 = .ok (.iconst 3, 1) := by decide +kernel
theorem dL_isStep_319 : decode cL_isStep 319 = .ok (.invokestatic 9, 3) := by decide +kernel
theorem dL_isStep_322 : decode cL_isStep 322 = .ok (.ifCond .le 5, 3) := by decide +kernel
theorem dL_isStep_325 : decode cL_isStep 325 = .ok (.iconst 1, 1) := by decide +kernel
theorem dL_isStep_326 : decode cL_isStep 326 = .ok (.ireturn, 1) := by decide +kernel
theorem dL_isStep_327 : decode cL_isStep 327 = .ok (.aload_n 0, 1) := by decide +kernel
theorem dL_isStep_328 : decode cL_isStep 328 = .ok (.iload 5, 2) := by decide +kernel
theorem dL_isStep_330 : decode cL_isStep 330 = .ok (.invokevirtual 49, 3) := by decide +kernel
theorem dL_isStep_333 : decode cL_isStep 333 = .ok (.istore 10, 2) := by decide +kernel
