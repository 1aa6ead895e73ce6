theorem dL_areAlike_279 : decode cL_areAlike 279 = .ok (.iload_n 2, 1) := by decide +kernel
theorem dL_areAlike_280 : decode cL_areAlike 280 = .ok (.iconst 5, 1) := by decide +kernel
theorem dL_areAlike_281 : decode cL_areAlike 281 = .ok (.ishr, 1) := by decide +kernel
theorem dL_areAlike_282 : decode cL_areAlike 282 = .ok (.aload_n 0, 1) := by decide +kernel
theorem dL_areAlike_283 : decode cL_areAlike 283 = .ok (.iconst 5, 1) := by decide +kernel
theorem dL_areAlike_284 : decode cL_areAlike 284 = .ok (.invokevirtual 21, 3) := by decide +kernel
theorem dL_areAlike_287 : decode cL_areAlike 287 = .ok (.iconst 1, 1) := by decide +kernel
theorem dL_areAlike_288 : decode cL_areAlike 288 = .ok (.iadd, 1) := by decide +kernel
theorem dL_areAlike_289 : decode cL_areAlike 289 = .ok (.invokestatic 9, 3) := by decide +kernel
theorem dL_areAlike_292 : decode cL_areAlike 292 = .ok (.istore 5, 2) := by decide +kernel
theorem dL_areAlike_294 : decode cL_areAlike 294 = .ok (.iload 4, 2) := by decide +kernel
theorem dL_areAlike_296 : decode cL_areAlike 296 = .ok (.ifCond .eq 22, 3) := by decide +kernel
theorem dL_areAlike_299 : decode cL_areAlike 299 = .ok (.aload_n 0, 1) := by decide +kernel
theorem dL_areAlike_300 : decode cL_areAlike 300 = .ok (.iload 5, 2) := by decide +kernel
theorem dL_areAlike_302 : decode cL_areAlike 302 = .ok (.invokevirtual 89, 3) := by decide +kernel
theorem dL_areAlike_305 : decode cL_areAlike 305 = .ok (.aload_n 1, 1) := by decide +kernel
theorem dL_areAlike_306 : decode cL_areAlike 306 = .ok (.iload 5, 2) := by decide +kernel
theorem dL_areAlike_308 : decode cL_areAlike 308 = .ok (.invokevirtual 89, 3) := by decide +kernel
theorem dL_areAlike_311 : decode cL_areAlike 311 = .ok (.if_icmp .ne 7, 3) := by decide +kernel
theorem dL_areAlike_314 : decode cL_areAlike 314 = .ok (.iconst 1, 1) := by decide +kernel
theorem dL_areAlike_315 : decode cL_areAlike 315 = .ok (.goto 4, 3) := by decide +kernel
theorem dL_areAlike_318 : decode cL_areAlike 318 = .ok (.iconst 0, 1) := by decide +kernel
theorem dL_areAlike_319 : decode cL_areAlike 319 = .ok (.ireturn, 1) := by decide +kernel
set_option maxRecDepth 20000 in
theorem ggL_isWell_X1_count : GoodIn wsL_isWell wsX1_count := goodIn_r _ [5, 6, 7, 8, 9, 10, 11, 12, 13, 14, 15, 16, 17, 18, 19, 20, 21, 22, 23, 24, 25, 26, 27, 28, 29, 30, 31, 32, 33, 34, 35, 36, 37, 38, 39, 40, 4, 41, 42, 43, 44, 45, 46, 47, 48, 49, 50, 51, 52, 53, 54, 55, 56, 57, 58, 59, 60, 194, 195, 196, 197, 198, 199, 200, 201, 202, 203, 204, 205, 206, 207, 208, 209, 210, 211, 212, 213, 214, 215, 216, 217] (by decide +kernel) (by decide +kernel)
set_option maxRecDepth 20000 in
theorem gL_isWell_X1_count : GoodIn wsL_isWell (wsV RL 21 RX1 yX1_count wsX1_count) := goodIn_app (goodIn_of _ (by decide +kernel)) ggL_isWell_X1_count
set_option maxRecDepth 20000 in
theorem ggL_isWell_X1_corner : GoodIn wsL_isWell wsX1_corner := goodIn_r _ [64, 6, 65, 10, 11, 66, 67, 68, 69, 70, 4, 71, 194, 195, 196, 197, 198, 199, 200, 201, 202, 203, 204, 205, 206, 207, 208, 209, 210, 211, 212, 213, 214, 215, 216, 217] (by decide +kernel) (by decide +kernel)
set_option maxRecDepth 20000 in
theorem gL_isWell_X1_corner : GoodIn wsL_isWell (wsV RL 52 RX1 yX1_corner wsX1_corner) := goodIn_app (goodIn_of _ (by decide +kernel)) ggL_isWell_X1_corner
set_option maxRecDepth 20000 in
theorem ggL_isWell_X1_name : GoodIn wsL_isWell wsX1_name := goodIn_r _ [75, 6, 76, 77, 78, 12, 79, 58, 59, 18, 60, 20, 80, 26, 27, 28, 29, 30, 31, 32, 33, 34, 81, 82, 83, 84, 85, 86, 87, 88, 89, 21, 22, 23, 24, 25, 194, 195, 196, 197, 198, 199, 200, 201, 202, 203, 204, 205, 206, 207, 208, 209, 210, 211, 212, 213, 214, 215, 216, 217] (by decide +kernel) (by decide +kernel)
set_option maxRecDepth 20000 in
theorem gL_isWell_X1_name : GoodIn wsL_isWell (wsV RL 40 RX1 yX1_name wsX1_name) := goodIn_app (goodIn_of _ (by decide +kernel)) ggL_isWell_X1_name
set_option maxRecDepth 20000 in
theorem ggL_isWell_X1_why : GoodIn wsL_isWell wsX1_why := goodIn_r _ [93, 6, 79, 58, 59, 18, 60, 20, 69, 70, 4, 71, 94, 95, 96, 97, 30, 31, 32, 33, 34, 98, 99, 100, 101, 52, 53, 54, 55, 56, 57, 102, 103, 104, 105, 106, 107, 108, 109, 110, 111, 112, 113, 114, 115, 116, 117, 29, 89, 118, 119, 194, 195, 196, 197, 198, 199, 200, 201, 202, 203, 204, 205, 206, 207, 208, 209, 210, 211, 212, 213, 214, 215, 216, 217] (by decide +kernel) (by decide +kernel)
set_option maxRecDepth 20000 in
theorem gL_isWell_X1_why : GoodIn wsL_isWell (wsV RL 74 RX1 yX1_why wsX1_why) := goodIn_app (goodIn_of _ (by decide +kernel)) ggL_isWell_X1_why
set_option maxRecDepth 20000 in
theorem ggL_isWell_X1_bestCorner : GoodIn wsL_isWell wsX1_bestCorner := goodIn_r _ [123, 6, 79, 58, 59, 18, 60, 20, 124, 125, 126, 127, 30, 31, 32, 33, 34, 98, 99, 100, 101, 52, 53, 54, 55, 56, 57, 102, 103, 104, 105, 106, 107, 108, 109, 110, 111, 112, 113, 114, 115, 116, 117, 29, 89, 118, 119, 194, 195, 196, 197, 198, 199, 200, 201, 202, 203, 204, 205, 206, 207, 208, 209, 210, 211, 212, 213, 214, 215, 216, 217] (by decide +kernel) (by decide +kernel)
set_option maxRecDepth 20000 in
theorem gL_isWell_X1_bestCorner : GoodIn wsL_isWell (wsV RL 86 RX1 yX1_bestCorner wsX1_bestCorner) := goodIn_app (goodIn_of _ (by decide +kernel)) ggL_isWell_X1_bestCorner
set_option maxRecDepth 20000 in
theorem ggL_isWell_X1_alike : GoodIn wsL_isWell wsX1_alike := goodIn_r _ [131, 6, 77, 79, 58, 59, 18, 60, 20, 132, 133, 134, 135, 136, 137, 138, 139, 140, 141, 142, 143, 144, 145, 146, 147, 148, 149, 194, 195, 196, 197, 198, 199, 200, 201, 202, 203, 204, 205, 206, 207, 208, 209, 210, 211, 212, 213, 214, 215, 216, 217] (by decide +kernel) (by decide +kernel)
set_option maxRecDepth 20000 in
theorem gL_isWell_X1_alike : GoodIn wsL_isWell (wsV RL 92 RX1 yX1_alike wsX1_alike) := goodIn_app (goodIn_of _ (by decide +kernel)) ggL_isWell_X1_alike
set_option maxRecDepth 20000 in
theorem ggL_isWell_X1_untilPosted : GoodIn wsL_isWell wsX1_untilPosted := goodIn_r _ [153, 6, 10, 154, 39, 40, 4, 41, 155, 156, 157, 7, 8, 9, 158, 159, 112, 109, 113, 160, 161, 162, 163, 78, 77, 76, 164, 12, 65, 11, 66, 67, 165, 68, 166, 167, 168, 169, 170, 171, 18, 172, 118, 173, 174, 175, 176, 20, 89, 21, 22, 23, 24, 25, 26, 27, 28, 29, 30, 31, 32, 33, 34, 177, 125, 126, 127, 98, 99, 100, 101, 52, 53, 54, 55, 56, 57, 58, 59, 60, 102, 103, 104, 105, 106, 107, 108, 110, 111, 114, 115, 116, 117, 119, 178, 179, 180, 181, 182, 183, 184, 185, 186, 187, 188, 189, 190, 191, 192, 193, 194, 195, 196, 197, 198, 199, 200, 201, 202, 203, 204, 205, 206, 207, 208, 209, 210, 211, 212, 213, 214, 215, 216, 217] (by decide +kernel) (by decide +kernel)
set_option maxRecDepth 20000 in
theorem gL_isWell_X1_untilPosted : GoodIn wsL_isWell (wsV RL 80 RX1 yX1_untilPosted wsX1_untilPosted) := goodIn_app (goodIn_of _ (by decide +kernel)) ggL_isWell_X1_untilPosted
theorem dL_isWell_0 : decode cL_isWell 0 = .ok (.iconst 0, 1) := by decide +kernel
theorem dL_isWell_1 : decode cL_isWell 1 = .ok (.istore_n 1, 1) := by decide +kernel
theorem dL_isWell_2 : decode cL_isWell 2 = .ok (.iconst 0, 1) := by decide +kernel
theorem dL_isWell_3 : decode cL_isWell 3 = .ok (.istore_n 2, 1) := by decide +kernel
theorem dL_isWell_4 : decode cL_isWell 4 = .ok (.iconst 0, 1) := by decide +kernel
theorem dL_isWell_5 : decode cL_isWell 5 = .ok (.istore_n 3, 1) := by decide +kernel
theorem dL_isWell_6 : decode cL_isWell 6 = .ok (.iconst 0, 1) := by decide +kernel
theorem dL_isWell_7 : decode cL_isWell 7 = .ok (.istore 4, 2) := by decide +kernel
theorem dL_isWell_9 : decode cL_isWell 9 = .ok (.iconst 0, 1) := by decide +kernel
theorem dL_isWell_10 : decode cL_isWell 10 = .ok (.istore 5, 2) := by decide +kernel
theorem dL_isWell_12 : decode cL_isWell 12 = .ok (.iconst 0, 1) := by decide +kernel
theorem dL_isWell_13 : decode cL_isWell 13 = .ok (.istore 6, 2) := by decide +kernel
theorem dL_isWell_15 : decode cL_isWell 15 = .ok (.aload_n 0, 1) := by decide +kernel
theorem dL_isWell_16 : decode cL_isWell 16 = .ok (.iconst 5, 1) := by decide +kernel
theorem dL_isWell_17 : decode cL_isWell 17 = .ok (.invokevirtual 21, 3) := by decide +kernel
theorem dL_isWell_20 : decode cL_isWell 20 = .ok (.istore 7, 2) := by decide +kernel
theorem dL_isWell_22 : decode cL_isWell 22 = .ok (.iconst 1, 1) := by decide +kernel
theorem dL_isWell_23 : decode cL_isWell 23 = .ok (.istore 8, 2) := by decide +kernel
theorem dL_isWell_25 : decode cL_isWell 25 = .ok (.iconst 0, 1) := by decide +kernel
theorem dL_isWell_26 : decode cL_isWell 26 = .ok (.istore 9, 2) := by decide +kernel
theorem dL_isWell_28 : decode cL_isWell 28 = .ok (.iload 9, 2) := by decide +kernel
theorem dL_isWell_30 : decode cL_isWell 30 = .ok (.bipush 12, 2) := by decide +kernel
theorem dL_isWell_32 : decode cL_isWell 32 = .ok (.if_icmp .ge 172, 3) := by decide +kernel
theorem dL_isWell_35 : decode cL_isWell 35 = .ok (.aload_n 0, 1) := by decide +kernel
theorem dL_isWell_36 : decode cL_isWell 36 = .ok (.iload 9, 2) := by decide +kernel
theorem dL_isWell_38 : decode cL_isWell 38 = .ok (.iconst 0, 1) := by decide +kernel
theorem dL_isWell_39 : decode cL_isWell 39 = .ok (.invokevirtual 52, 3) := by decide +kernel
theorem dL_isWell_42 : decode cL_isWell 42 = .ok (.istore 10, 2) := by decide +kernel
theorem dL_isWell_44 : decode cL_isWell 44 = .ok (.iload_n 1, 1) := by decide +kernel
theorem dL_isWell_45 : decode cL_isWell 45 = .ok (.aload_n 0, 1) := by decide +kernel
theorem dL_isWell_46 : decode cL_isWell 46 = .ok (.iload 9, 2) := by decide +kernel
theorem dL_isWell_48 : decode cL_isWell 48 = .ok (.iconst 1, 1) := by decide +kernel
theorem dL_isWell_49 : decode cL_isWell 49 = .ok (.invokevirtual 52, 3) := by decide +kernel
theorem dL_isWell_52 : decode cL_isWell 52 = .ok (.iadd, 1) := by decide +kernel
theorem dL_isWell_53 : decode cL_isWell 53 = .ok (.istore_n 1, 1) := by decide +kernel
theorem dL_isWell_54 : decode cL_isWell 54 = .ok (.iload_n 2, 1) := by decide +kernel
theorem dL_isWell_55 : decode cL_isWell 55 = .ok (.aload_n 0, 1) := by decide +kernel
theorem dL_isWell_56 : decode cL_isWell 56 = .ok (.iload 9, 2) := by decide +kernel
theorem dL_isWell_58 : decode cL_isWell 58 = .ok (.iconst 2, 1) := by decide +kernel
theorem dL_isWell_59 : decode cL_isWell 59 = .ok (.invokevirtual 52, 3) := by decide +kernel
theorem dL_isWell_62 : decode cL_isWell 62 = .ok (.iadd, 1) := by decide +kernel
theorem dL_isWell_63 : decode cL_isWell 63 = .ok (.istore_n 2, 1) := by decide +kernel
theorem dL_isWell_64 : decode cL_isWell 64 = .ok (.iload 4, 2) := by decide +kernel
theorem dL_isWell_66 : decode cL_isWell 66 = .ok (.aload_n 0, 1) := by decide +kernel
theorem dL_isWell_67 : decode cL_isWell 67 = .ok (.iload 9, 2) := by decide +kernel
theorem dL_isWell_69 : decode cL_isWell 69 = .ok (.iconst 4, 1) := by decide +kernel
theorem dL_isWell_70 : decode cL_isWell 70 = .ok (.invokevirtual 52, 3) := by decide +kernel
theorem dL_isWell_73 : decode cL_isWell 73 = .ok (.iadd, 1) := by decide +kernel
theorem dL_isWell_74 : decode cL_isWell 74 = .ok (.istore 4, 2) := by decide +kernel
theorem dL_isWell_76 : decode cL_isWell 76 = .ok (.iload_n 3, 1) := by decide +kernel
theorem dL_isWell_77 : decode cL_isWell 77 = .ok (.iload 10, 2) := by decide +kernel
theorem dL_isWell_79 : decode cL_isWell 79 = .ok (.ifCond .lt 7, 3) := by decide +kernel
theorem dL_isWell_82 : decode cL_isWell 82 = .ok (.iconst 1, 1) := by decide +kernel
theorem dL_isWell_83 : decode cL_isWell 83 = .ok (.goto 4, 3) := by decide +kernel
theorem dL_isWell_86 : decode cL_isWell 86 = .ok (.iconst 0, 1) := by decide +kernel
theorem dL_isWell_87 : decode cL_isWell 87 = .ok (.iadd, 1) := by decide +kernel
theorem dL_isWell_88 : decode cL_isWell 88 = .ok (.istore_n 3, 1) := by decide +kernel
theorem dL_isWell_89 : decode cL_isWell 89 = .ok (.iload 8, 2) := by decide +kernel
theorem dL_isWell_91 : decode cL_isWell 91 = .ok (.ifCond .eq 104, 3) := by decide +kernel
theorem dL_isWell_94 : decode cL_isWell 94 = .ok (.aload_n 0, 1) := by decide +kernel
theorem dL_isWell_95 : decode cL_isWell 95 = .ok (.iload 9, 2) := by decide +kernel
theorem dL_isWell_97 : decode cL_isWell 97 = .ok (.iconst 1, 1) := by decide +kernel
theorem dL_isWell_98 : decode cL_isWell 98 = .ok (.invokevirtual 52, 3) := by decide +kernel
theorem dL_isWell_101 : decode cL_isWell 101 = .ok (.ifCond .lt 94, 3) := by decide +kernel
theorem dL_isWell_104 : decode cL_isWell 104 = .ok (.iload 10, 2) := by decide +kernel
theorem dL_isWell_106 : decode cL_isWell 106 = .ok (.ifCond .lt 7, 3) := by decide +kernel
theorem dL_isWell_109 : decode cL_isWell 109 = .ok (.iconst 1, 1) := by decide +kernel
theorem dL_isWell_110 : decode cL_isWell 110 = .ok (.goto 4, 3) := by decide +kernel
theorem dL_isWell_113 : decode cL_isWell 113 = .ok (.iconst 0, 1) := by decide +kernel
theorem dL_isWell_114 : decode cL_isWell 114 = .ok (.aload_n 0, 1) := by decide +kernel
theorem dL_isWell_115 : decode cL_isWell 115 = .ok (.iload 9, 2) := by decide +kernel
theorem dL_isWell_117 : decode cL_isWell 117 = .ok (.iconst 3, 1) := by decide +kernel
theorem dL_isWell_118 : decode cL_isWell 118 = .ok (.invokevirtual 52, 3) := by decide +kernel
theorem dL_isWell_121 : decode cL_isWell 121 = .ok (.ifCond .lt 7, 3) := by decide +kernel
theorem dL_isWell_124 : decode cL_isWell 124 = .ok (.iconst 1, 1) := by decide +kernel
theorem dL_isWell_125 : decode cL_isWell 125 = .ok (.goto 4, 3) := by decide +kernel
theorem dL_isWell_128 : decode cL_isWell 128 = .ok (.iconst 0, 1) := by decide +kernel
theorem dL_isWell_129 : decode cL_isWell 129 = .ok (.if_icmp .ne 66, 3) := by decide +kernel
theorem dL_isWell_132 : decode cL_isWell 132 = .ok (.iload 10, 2) := by decide +kernel
theorem dL_isWell_134 : decode cL_isWell 134 = .ok (.ifCond .lt 57, 3) := by decide +kernel
theorem dL_isWell_137 : decode cL_isWell 137 = .ok (.aload_n 0, 1) := by decide +kernel
theorem dL_isWell_138 : decode cL_isWell 138 = .ok (.iload 10, 2) := by decide +kernel
theorem dL_isWell_140 : decode cL_isWell 140 = .ok (.iconst 2, 1) := by decide +kernel
theorem dL_isWell_141 : decode cL_isWell 141 = .ok (.invokevirtual 40, 3) := by decide +kernel
theorem dL_isWell_144 : decode cL_isWell 144 = .ok (.iload 9, 2) := by decide +kernel
theorem dL_isWell_146 : decode cL_isWell 146 = .ok (.ishr, 1) := by decide +kernel
theorem dL_isWell_147 : decode cL_isWell 147 = .ok (.iconst 1, 1) := by decide +kernel
