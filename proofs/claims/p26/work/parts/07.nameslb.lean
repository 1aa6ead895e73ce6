theorem dL_isRead_207 : decode cL_isRead 207 = .ok (.iload 12, 2) := by decide +kernel
theorem dL_isRead_209 : decode cL_isRead 209 = .ok (.iload 8, 2) := by decide +kernel
theorem dL_isRead_211 : decode cL_isRead 211 = .ok (.iload 11, 2) := by decide +kernel
theorem dL_isRead_213 : decode cL_isRead 213 = .ok (.iconst 2, 1) := by decide +kernel
theorem dL_isRead_214 : decode cL_isRead 214 = .ok (.iadd, 1) := by decide +kernel
theorem dL_isRead_215 : decode cL_isRead 215 = .ok (.ishr, 1) := by decide +kernel
theorem dL_isRead_216 : decode cL_isRead 216 = .ok (.invokestatic 34, 3) := by decide +kernel
theorem dL_isRead_219 : decode cL_isRead 219 = .ok (.i2l, 1) := by decide +kernel
theorem dL_isRead_220 : decode cL_isRead 220 = .ok (.invokevirtual 27, 3) := by decide +kernel
theorem dL_isRead_223 : decode cL_isRead 223 = .ok (.iload 11, 2) := by decide +kernel
theorem dL_isRead_225 : decode cL_isRead 225 = .ok (.iconst 1, 1) := by decide +kernel
theorem dL_isRead_226 : decode cL_isRead 226 = .ok (.iadd, 1) := by decide +kernel
theorem dL_isRead_227 : decode cL_isRead 227 = .ok (.if_icmp .ne 7, 3) := by decide +kernel
theorem dL_isRead_230 : decode cL_isRead 230 = .ok (.iconst 1, 1) := by decide +kernel
theorem dL_isRead_231 : decode cL_isRead 231 = .ok (.goto 4, 3) := by decide +kernel
theorem dL_isRead_234 : decode cL_isRead 234 = .ok (.iconst 0, 1) := by decide +kernel
theorem dL_isRead_235 : decode cL_isRead 235 = .ok (.istore 4, 2) := by decide +kernel
theorem dL_isRead_237 : decode cL_isRead 237 = .ok (.iinc 11 1, 3) := by decide +kernel
theorem dL_isRead_240 : decode cL_isRead 240 = .ok (.goto (-93), 3) := by decide +kernel
theorem dL_isRead_243 : decode cL_isRead 243 = .ok (.iload 4, 2) := by decide +kernel
theorem dL_isRead_245 : decode cL_isRead 245 = .ok (.ifCond .eq 77, 3) := by decide +kernel
theorem dL_isRead_248 : decode cL_isRead 248 = .ok (.aload_n 0, 1) := by decide +kernel
theorem dL_isRead_249 : decode cL_isRead 249 = .ok (.bipush 48, 2) := by decide +kernel
theorem dL_isRead_251 : decode cL_isRead 251 = .ok (.iload 10, 2) := by decide +kernel
theorem dL_isRead_253 : decode cL_isRead 253 = .ok (.iadd, 1) := by decide +kernel
theorem dL_isRead_254 : decode cL_isRead 254 = .ok (.i2l, 1) := by decide +kernel
theorem dL_isRead_255 : decode cL_isRead 255 = .ok (.invokevirtual 27, 3) := by decide +kernel
theorem dL_isRead_258 : decode cL_isRead 258 = .ok (.ifCond .le 64, 3) := by decide +kernel
theorem dL_isRead_261 : decode cL_isRead 261 = .ok (.aload_n 1, 1) := by decide +kernel
theorem dL_isRead_262 : decode cL_isRead 262 = .ok (.bipush 48, 2) := by decide +kernel
theorem dL_isRead_264 : decode cL_isRead 264 = .ok (.iload 10, 2) := by decide +kernel
theorem dL_isRead_266 : decode cL_isRead 266 = .ok (.iadd, 1) := by decide +kernel
theorem dL_isRead_267 : decode cL_isRead 267 = .ok (.i2l, 1) := by decide +kernel
theorem dL_isRead_268 : decode cL_isRead 268 = .ok (.invokevirtual 27, 3) := by decide +kernel
theorem dL_isRead_271 : decode cL_isRead 271 = .ok (.ifCond .le 51, 3) := by decide +kernel
theorem dL_isRead_274 : decode cL_isRead 274 = .ok (.aload_n 1, 1) := by decide +kernel
theorem dL_isRead_275 : decode cL_isRead 275 = .ok (.invokevirtual 37, 3) := by decide +kernel
theorem dL_isRead_278 : decode cL_isRead 278 = .ok (.iload 5, 2) := by decide +kernel
theorem dL_isRead_280 : decode cL_isRead 280 = .ok (.iload 7, 2) := by decide +kernel
theorem dL_isRead_282 : decode cL_isRead 282 = .ok (.iadd, 1) := by decide +kernel
theorem dL_isRead_283 : decode cL_isRead 283 = .ok (.iconst 1, 1) := by decide +kernel
theorem dL_isRead_284 : decode cL_isRead 284 = .ok (.iadd, 1) := by decide +kernel
theorem dL_isRead_285 : decode cL_isRead 285 = .ok (.if_icmp .ne 37, 3) := by decide +kernel
theorem dL_isRead_288 : decode cL_isRead 288 = .ok (.aload_n 1, 1) := by decide +kernel
theorem dL_isRead_289 : decode cL_isRead 289 = .ok (.iload 5, 2) := by decide +kernel
theorem dL_isRead_291 : decode cL_isRead 291 = .ok (.iload 7, 2) := by decide +kernel
theorem dL_isRead_293 : decode cL_isRead 293 = .ok (.iadd, 1) := by decide +kernel
theorem dL_isRead_294 : decode cL_isRead 294 = .ok (.iconst 0, 1) := by decide +kernel
theorem dL_isRead_295 : decode cL_isRead 295 = .ok (.invokevirtual 40, 3) := by decide +kernel
theorem dL_isRead_298 : decode cL_isRead 298 = .ok (.iload 10, 2) := by decide +kernel
theorem dL_isRead_300 : decode cL_isRead 300 = .ok (.if_icmp .ne 22, 3) := by decide +kernel
theorem dL_isRead_303 : decode cL_isRead 303 = .ok (.aload_n 1, 1) := by decide +kernel
theorem dL_isRead_304 : decode cL_isRead 304 = .ok (.iload 5, 2) := by decide +kernel
theorem dL_isRead_306 : decode cL_isRead 306 = .ok (.iload 7, 2) := by decide +kernel
theorem dL_isRead_308 : decode cL_isRead 308 = .ok (.iadd, 1) := by decide +kernel
theorem dL_isRead_309 : decode cL_isRead 309 = .ok (.iconst 5, 1) := by decide +kernel
theorem dL_isRead_310 : decode cL_isRead 310 = .ok (.invokevirtual 40, 3) := by decide +kernel
theorem dL_isRead_313 : decode cL_isRead 313 = .ok (.iload 9, 2) := by decide +kernel
theorem dL_isRead_315 : decode cL_isRead 315 = .ok (.if_icmp .ne 7, 3) := by decide +kernel
theorem dL_isRead_318 : decode cL_isRead 318 = .ok (.iconst 1, 1) := by decide +kernel
theorem dL_isRead_319 : decode cL_isRead 319 = .ok (.goto 4, 3) := by decide +kernel
theorem dL_isRead_322 : decode cL_isRead 322 = .ok (.iconst 0, 1) := by decide +kernel
theorem dL_isRead_323 : decode cL_isRead 323 = .ok (.istore 4, 2) := by decide +kernel
theorem dL_isRead_325 : decode cL_isRead 325 = .ok (.iinc 7 1, 3) := by decide +kernel
theorem dL_isRead_328 : decode cL_isRead 328 = .ok (.goto (-263), 3) := by decide +kernel
theorem dL_isRead_331 : decode cL_isRead 331 = .ok (.iload 4, 2) := by decide +kernel
theorem dL_isRead_333 : decode cL_isRead 333 = .ok (.ifCond .eq 32, 3) := by decide +kernel
theorem dL_isRead_336 : decode cL_isRead 336 = .ok (.aload_n 0, 1) := by decide +kernel
theorem dL_isRead_337 : decode cL_isRead 337 = .ok (.invokevirtual 37, 3) := by decide +kernel
theorem dL_isRead_340 : decode cL_isRead 340 = .ok (.iload 5, 2) := by decide +kernel
theorem dL_isRead_342 : decode cL_isRead 342 = .ok (.iload 6, 2) := by decide +kernel
theorem dL_isRead_344 : decode cL_isRead 344 = .ok (.iadd, 1) := by decide +kernel
theorem dL_isRead_345 : decode cL_isRead 345 = .ok (.if_icmp .ne 20, 3) := by decide +kernel
theorem dL_isRead_348 : decode cL_isRead 348 = .ok (.aload_n 0, 1) := by decide +kernel
theorem dL_isRead_349 : decode cL_isRead 349 = .ok (.iconst 5, 1) := by decide +kernel
theorem dL_isRead_350 : decode cL_isRead 350 = .ok (.invokevirtual 21, 3) := by decide +kernel
theorem dL_isRead_353 : decode cL_isRead 353 = .ok (.iload 5, 2) := by decide +kernel
theorem dL_isRead_355 : decode cL_isRead 355 = .ok (.iload 6, 2) := by decide +kernel
theorem dL_isRead_357 : decode cL_isRead 357 = .ok (.iadd, 1) := by decide +kernel
theorem dL_isRead_358 : decode cL_isRead 358 = .ok (.if_icmp .ne 7, 3) := by decide +kernel
theorem dL_isRead_361 : decode cL_isRead 361 = .ok (.iconst 1, 1) := by decide +kernel
theorem dL_isRead_362 : decode cL_isRead 362 = .ok (.goto 4, 3) := by decide +kernel
theorem dL_isRead_365 : decode cL_isRead 365 = .ok (.iconst 0, 1) := by decide +kernel
theorem dL_isRead_366 : decode cL_isRead 366 = .ok (.ireturn, 1) := by decide +kernel
set_option maxRecDepth 20000 in
theorem ggL_isStep_X1_count : GoodIn wsL_isStep wsX1_count := goodIn_r _ [5, 6, 7, 8, 9, 10, 11, 12, 13, 14, 15, 16, 17, 18, 19, 20, 21, 22, 23, 24, 25, 26, 27, 28, 29, 30, 31, 32, 33, 34, 35, 36, 37, 38, 39, 40, 4, 41, 42, 43, 44, 45, 46, 47, 48, 49, 50, 51, 52, 53, 54, 55, 56, 57, 58, 59, 60, 292, 293, 294, 295, 296, 297, 298, 299, 300, 301, 302, 303, 304, 305, 306, 307, 308, 309, 310, 311, 312, 313, 314, 315] (by decide +kernel) (by decide +kernel)
set_option maxRecDepth 20000 in
theorem gL_isStep_X1_count : GoodIn wsL_isStep (wsV RL 21 RX1 yX1_count wsX1_count) := goodIn_app (goodIn_of _ (by decide +kernel)) ggL_isStep_X1_count
set_option maxRecDepth 20000 in
theorem ggL_isStep_L_up : GoodIn wsL_isStep wsL_up := goodIn_r _ [64, 65] (by decide +kernel) (by decide +kernel)
set_option maxRecDepth 20000 in
theorem gL_isStep_L_up : GoodIn wsL_isStep (va_wsS RL 9 yL_up wsL_up) := goodIn_app (goodIn_of _ (by decide +kernel)) ggL_isStep_L_up
set_option maxRecDepth 20000 in
theorem ggL_isStep_X1_set : GoodIn wsL_isStep wsX1_set := goodIn_r _ [69, 70, 71, 6, 7, 72, 73, 74, 4, 75, 14, 76, 77, 78, 79, 8, 9, 80, 81, 82, 83, 84, 85, 86, 87, 88, 89, 90, 91, 92, 12, 93, 10, 11, 94, 95, 96, 97, 98, 99, 100, 292, 293, 294, 295, 296, 297, 298, 299, 300, 301, 302, 303, 304, 305, 306, 307, 308, 309, 310, 311, 312, 313, 314, 315] (by decide +kernel) (by decide +kernel)
set_option maxRecDepth 20000 in
theorem gL_isStep_X1_set : GoodIn wsL_isStep (wsV RL 43 RX1 yX1_set wsX1_set) := goodIn_app (goodIn_of _ (by decide +kernel)) ggL_isStep_X1_set
set_option maxRecDepth 20000 in
theorem ggL_isStep_X1_name : GoodIn wsL_isStep wsX1_name := goodIn_r _ [104, 6, 91, 90, 89, 12, 105, 58, 59, 18, 60, 20, 106, 26, 27, 28, 29, 30, 31, 32, 33, 34, 107, 108, 109, 110, 111, 112, 113, 114, 115, 21, 22, 23, 24, 25, 292, 293, 294, 295, 296, 297, 298, 299, 300, 301, 302, 303, 304, 305, 306, 307, 308, 309, 310, 311, 312, 313, 314, 315] (by decide +kernel) (by decide +kernel)
set_option maxRecDepth 20000 in
theorem gL_isStep_X1_name : GoodIn wsL_isStep (wsV RL 40 RX1 yX1_name wsX1_name) := goodIn_app (goodIn_of _ (by decide +kernel)) ggL_isStep_X1_name
set_option maxRecDepth 20000 in
theorem ggL_isStep_X1_honour : GoodIn wsL_isStep wsX1_honour := goodIn_r _ [119, 6, 91, 105, 58, 59, 18, 60, 20, 72, 73, 74, 4, 75, 14, 76, 77, 78, 79, 7, 8, 9, 80, 81, 82, 83, 84, 85, 86, 87, 88, 89, 90, 92, 12, 93, 10, 11, 94, 95, 96, 97, 98, 99, 100, 292, 293, 294, 295, 296, 297, 298, 299, 300, 301, 302, 303, 304, 305, 306, 307, 308, 309, 310, 311, 312, 313, 314, 315] (by decide +kernel) (by decide +kernel)
set_option maxRecDepth 20000 in
theorem gL_isStep_X1_honour : GoodIn wsL_isStep (wsV RL 46 RX1 yX1_honour wsX1_honour) := goodIn_app (goodIn_of _ (by decide +kernel)) ggL_isStep_X1_honour
set_option maxRecDepth 20000 in
theorem ggL_isStep_X1_withdraw : GoodIn wsL_isStep wsX1_withdraw := goodIn_r _ [123, 6, 92, 105, 58, 59, 18, 60, 20, 72, 73, 74, 4, 75, 14, 76, 77, 78, 79, 7, 8, 9, 80, 81, 82, 83, 84, 85, 86, 87, 88, 89, 90, 91, 12, 93, 10, 11, 94, 95, 96, 97, 98, 99, 100, 124, 125, 126, 127, 29, 34, 30, 31, 32, 33, 128, 129, 130, 131, 292, 293, 294, 295, 296, 297, 298, 299, 300, 301, 302, 303, 304, 305, 306, 307, 308, 309, 310, 311, 312, 313, 314, 315] (by decide +kernel) (by decide +kernel)
set_option maxRecDepth 20000 in
theorem gL_isStep_X1_withdraw : GoodIn wsL_isStep (wsV RL 49 RX1 yX1_withdraw wsX1_withdraw) := goodIn_app (goodIn_of _ (by decide +kernel)) ggL_isStep_X1_withdraw
set_option maxRecDepth 20000 in
theorem ggL_isStep_X1_corner : GoodIn wsL_isStep wsX1_corner := goodIn_r _ [135, 6, 93, 10, 11, 94, 95, 97, 136, 137, 4, 138, 292, 293, 294, 295, 296, 297, 298, 299, 300, 301, 302, 303, 304, 305, 306, 307, 308, 309, 310, 311, 312, 313, 314, 315] (by decide +kernel) (by decide +kernel)
set_option maxRecDepth 20000 in
theorem gL_isStep_X1_corner : GoodIn wsL_isStep (wsV RL 52 RX1 yX1_corner wsX1_corner) := goodIn_app (goodIn_of _ (by decide +kernel)) ggL_isStep_X1_corner
set_option maxRecDepth 20000 in
theorem ggL_isStep_X1_strip : GoodIn wsL_isStep wsX1_strip := goodIn_r _ [142, 6, 93, 10, 136, 137, 4, 138, 72, 73, 74, 75, 14, 76, 77, 78, 79, 7, 8, 9, 80, 81, 82, 83, 84, 85, 86, 87, 88, 89, 90, 91, 92, 12, 11, 94, 95, 96, 97, 98, 99, 100, 143, 129, 130, 18, 131, 34, 292, 293, 294, 295, 296, 297, 298, 299, 300, 301, 302, 303, 304, 305, 306, 307, 308, 309, 310, 311, 312, 313, 314, 315] (by decide +kernel) (by decide +kernel)
set_option maxRecDepth 20000 in
theorem gL_isStep_X1_strip : GoodIn wsL_isStep (wsV RL 55 RX1 yX1_strip wsX1_strip) := goodIn_app (goodIn_of _ (by decide +kernel)) ggL_isStep_X1_strip
set_option maxRecDepth 20000 in
theorem ggL_isStep_X1_issue : GoodIn wsL_isStep wsX1_issue := goodIn_r _ [147, 6, 72, 73, 74, 4, 75, 14, 76, 77, 78, 79, 7, 8, 9, 80, 81, 82, 83, 84, 85, 86, 87, 88, 89, 90, 91, 92, 12, 93, 10, 11, 94, 95, 96, 97, 98, 99, 100, 42, 43, 44, 18, 45, 46, 47, 34, 148, 149, 150, 151, 292, 293, 294, 295, 296, 297, 298, 299, 300, 301, 302, 303, 304, 305, 306, 307, 308, 309, 310, 311, 312, 313, 314, 315] (by decide +kernel) (by decide +kernel)
set_option maxRecDepth 20000 in
theorem gL_isStep_X1_issue : GoodIn wsL_isStep (wsV RL 58 RX1 yX1_issue wsX1_issue) := goodIn_app (goodIn_of _ (by decide +kernel)) ggL_isStep_X1_issue
set_option maxRecDepth 20000 in
theorem ggL_isStep_X1_save : GoodIn wsL_isStep wsX1_save := goodIn_r _ [155, 6, 156, 157, 8, 158, 159, 4, 160, 77, 78, 79, 7, 9, 80, 81, 82, 83, 84, 85, 86, 87, 88, 89, 90, 91, 92, 12, 93, 10, 11, 94, 95, 96, 97, 98, 99, 100, 292, 293, 294, 295, 296, 297, 298, 299, 300, 301, 302, 303, 304, 305, 306, 307, 308, 309, 310, 311, 312, 313, 314, 315] (by decide +kernel) (by decide +kernel)
set_option maxRecDepth 20000 in
theorem gL_isStep_X1_save : GoodIn wsL_isStep (wsV RL 61 RX1 yX1_save wsX1_save) := goodIn_app (goodIn_of _ (by decide +kernel)) ggL_isStep_X1_save
set_option maxRecDepth 20000 in
theorem ggL_isStep_X1_restore : GoodIn wsL_isStep wsX1_restore := goodIn_r _ [164, 157, 156, 6, 8, 158, 159, 4, 160, 72, 73, 74, 75, 14, 76, 77, 78, 79, 7, 9, 80, 81, 82, 83, 84, 85, 86, 87, 88, 89, 90, 91, 92, 12, 93, 10, 11, 94, 95, 96, 97, 98, 99, 100, 292, 293, 294, 295, 296, 297, 298, 299, 300, 301, 302, 303, 304, 305, 306, 307, 308, 309, 310, 311, 312, 313, 314, 315] (by decide +kernel) (by decide +kernel)
set_option maxRecDepth 20000 in
theorem gL_isStep_X1_restore : GoodIn wsL_isStep (wsV RL 64 RX1 yX1_restore wsX1_restore) := goodIn_app (goodIn_of _ (by decide +kernel)) ggL_isStep_X1_restore
set_option maxRecDepth 20000 in
theorem ggL_isStep_L_isRead : GoodIn wsL_isStep wsL_isRead := goodIn_r _ [167, 168, 169, 170, 171, 4, 172, 13, 1, 2, 3, 5, 6, 7, 8, 9, 10, 11, 12, 14, 15, 16, 17, 18, 19, 20, 21, 22, 23, 24, 25, 26, 27, 28, 29, 30, 31, 32, 33, 34, 35, 36, 37, 38, 39, 40, 41, 42, 43, 44, 45, 46, 47, 48, 49, 50, 51, 52, 53, 54, 55, 56, 57, 58, 59, 60, 61, 62, 63, 64, 65, 173, 174, 175, 176, 177, 178, 179, 180, 181, 182, 183, 184, 185, 186, 187, 188, 189, 190, 191, 192, 193, 194, 195, 196, 197, 198, 199, 200, 201, 202, 203, 204, 205, 206, 207, 208, 209, 210, 211, 212, 72, 73, 74, 75, 76, 77, 78, 79, 80, 81, 82, 83, 84, 85, 86, 87, 88, 89, 90, 91, 92, 93, 94, 95, 96, 97, 98, 99, 100, 213, 214, 215, 216, 217, 218, 219, 115, 220, 221, 222, 223, 224, 225, 226, 227, 228, 101, 102, 103, 104, 105, 106, 107, 108, 109, 110, 111, 112, 113, 114, 292, 293, 294, 295, 296, 297, 298, 299, 300, 301, 302, 303, 304, 305, 306, 307, 308, 309, 310, 311, 312, 313, 314, 315] (by decide +kernel) (by decide +kernel)
set_option maxRecDepth 20000 in
theorem gL_isStep_L_isRead : GoodIn wsL_isStep (va_wsS RL 67 yL_isRead wsL_isRead) := goodIn_app (goodIn_of _ (by decide +kernel)) ggL_isStep_L_isRead
set_option maxRecDepth 20000 in
theorem ggL_isStep_X1_pass : GoodIn wsL_isStep wsX1_pass := goodIn_r _ [232, 6, 8, 72, 73, 74, 4, 75, 14, 76, 77, 78, 79, 7, 9, 80, 81, 82, 83, 84, 85, 86, 87, 88, 89, 90, 91, 92, 12, 93, 10, 11, 94, 95, 96, 97, 98, 99, 100, 233, 234, 235, 18, 236, 237, 238, 239, 240, 241, 20, 115, 21, 22, 23, 24, 25, 26, 27, 28, 29, 30, 31, 32, 33, 34, 242, 243, 244, 245, 246, 247, 248, 249, 52, 53, 54, 55, 56, 57, 58, 59, 60, 250, 251, 252, 253, 254, 255, 256, 257, 258, 259, 260, 261, 262, 263, 264, 265, 266, 267, 268, 220, 269, 270, 271, 272, 273, 274, 275, 276, 277, 278, 292, 293, 294, 295, 296, 297, 298, 299, 300, 301, 302, 303, 304, 305, 306, 307, 308, 309, 310, 311, 312, 313, 314, 315] (by decide +kernel) (by decide +kernel)
set_option maxRecDepth 20000 in
theorem gL_isStep_X1_pass : GoodIn wsL_isStep (wsV RL 71 RX1 yX1_pass wsX1_pass) := goodIn_app (goodIn_of _ (by decide +kernel)) ggL_isStep_X1_pass
set_option maxRecDepth 20000 in
theorem ggL_isStep_X1_why : GoodIn wsL_isStep wsX1_why := goodIn_r _ [282, 6, 105, 58, 59, 18, 60, 20, 136, 137, 4, 138, 283, 284, 285, 286, 30, 31, 32, 33, 34, 246, 247, 248, 249, 52, 53, 54, 55, 56, 57, 250, 251, 252, 253, 254, 255, 256, 83, 257, 258, 82, 84, 259, 260, 261, 262, 29, 115, 237, 263, 292, 293, 294, 295, 296, 297, 298, 299, 300, 301, 302, 303, 304, 305, 306, 307, 308, 309, 310, 311, 312, 313, 314, 315] (by decide +kernel) (by decide +kernel)
set_option maxRecDepth 20000 in
theorem gL_isStep_X1_why : GoodIn wsL_isStep (wsV RL 74 RX1 yX1_why wsX1_why) := goodIn_app (goodIn_of _ (by decide +kernel)) ggL_isStep_X1_why
set_option maxRecDepth 20000 in
theorem ggL_isStep_X1_give : GoodIn wsL_isStep wsX1_give := goodIn_r _ [290, 6, 10, 105, 58, 59, 18, 60, 20, 136, 137, 4, 138, 283, 284, 285, 286, 30, 31, 32, 33, 34, 246, 247, 248, 249, 52, 53, 54, 55, 56, 57, 250, 251, 252, 253, 254, 255, 256, 83, 257, 258, 82, 84, 259, 260, 261, 262, 29, 115, 237, 263, 72, 73, 74, 75, 14, 76, 77, 78, 79, 7, 8, 9, 80, 81, 85, 86, 87, 88, 89, 90, 91, 92, 12, 93, 11, 94, 95, 96, 97, 98, 99, 100, 291, 265, 266, 267, 268, 220, 269, 292, 293, 294, 295, 296, 297, 298, 299, 300, 301, 302, 303, 304, 305, 306, 307, 308, 309, 310, 311, 312, 313, 314, 315] (by decide +kernel) (by decide +kernel)
set_option maxRecDepth 20000 in
theorem gL_isStep_X1_give : GoodIn wsL_isStep (wsV RL 77 RX1 yX1_give wsX1_give) := goodIn_app (goodIn_of _ (by decide +kernel)) ggL_isStep_X1_give
theorem dL_isStep_0 : decode cL_isStep 0 = .ok (.iload_n 2, 1) := by decide +kernel
theorem dL_isStep_1 : decode cL_isStep 1 = .ok (.iconst 4, 1) := by decide +kernel
theorem dL_isStep_2 : decode cL_isStep 2 = .ok (.ishr, 1) := by decide +kernel
theorem dL_isStep_3 : decode cL_isStep 3 = .ok (.istore 4, 2) := by decide +kernel
theorem dL_isStep_5 : decode cL_isStep 5 = .ok (.iload 4, 2) := by decide +kernel
theorem dL_isStep_7 : decode cL_isStep 7 = .ok (.aload_n 0, 1) := by decide +kernel
theorem dL_isStep_8 : decode cL_isStep 8 = .ok (.iconst 5, 1) := by decide +kernel
theorem dL_isStep_9 : decode cL_isStep 9 = .ok (.invokevirtual 21, 3) := by decide +kernel
theorem dL_isStep_12 : decode cL_isStep 12 = .ok (.iconst 1, 1) := by decide +kernel
theorem dL_isStep_13 : decode cL_isStep 13 = .ok (.iadd, 1) := by decide +kernel
theorem dL_isStep_14 : decode cL_isStep 14 = .ok (.invokestatic 9, 3) := by decide +kernel
theorem dL_isStep_17 : decode cL_isStep 17 = .ok (.istore 5, 2) := by decide +kernel
theorem dL_isStep_19 : decode cL_isStep 19 = .ok (.iload_n 3, 1) := by decide +kernel
theorem dL_isStep_20 : decode cL_isStep 20 = .ok (.bipush 12, 2) := by decide +kernel
theorem dL_isStep_22 : decode cL_isStep 22 = .ok (.invokestatic 9, 3) := by decide +kernel
theorem dL_isStep_25 : decode cL_isStep 25 = .ok (.istore 6, 2) := by decide +kernel
theorem dL_isStep_27 : decode cL_isStep 27 = .ok (.iload_n 2, 1) := by decide +kernel
theorem dL_isStep_28 : decode cL_isStep 28 = .ok (.bipush 18, 2) := by decide +kernel
theorem dL_isStep_30 : decode cL_isStep 30 = .ok (.invokestatic 9, 3) := by decide +kernel
theorem dL_isStep_33 : decode cL_isStep 33 = .ok (.tableswitch 736 0 13 #[71, 184, 258, 397, 488, 529, 597, 597, 597, 597, 606, 606, 606, 606], 71) := by decide +kernel
theorem dL_isStep_104 : decode cL_isStep 104 = .ok (.iload 4, 2) := by decide +kernel
theorem dL_isStep_106 : decode cL_isStep 106 = .ok (.iconst 4, 1) := by decide +kernel
theorem dL_isStep_107 : decode cL_isStep 107 = .ok (.invokestatic 9, 3) := by decide +kernel
theorem dL_isStep_110 : decode cL_isStep 110 = .ok (.istore 7, 2) := by decide +kernel
theorem dL_isStep_112 : decode cL_isStep 112 = .ok (.iload 7, 2) := by decide +kernel
theorem dL_isStep_114 : decode cL_isStep 114 = .ok (.ifCond .ne 12, 3) := by decide +kernel
