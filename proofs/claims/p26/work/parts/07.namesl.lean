theorem dL_cell_0 : decode cL_cell 0 = .ok (.iload_n 1, 1) := by decide +kernel
theorem dL_cell_1 : decode cL_cell 1 = .ok (.aload_n 0, 1) := by decide +kernel
theorem dL_cell_2 : decode cL_cell 2 = .ok (.arraylength, 1) := by decide +kernel
theorem dL_cell_3 : decode cL_cell 3 = .ok (.if_icmp .ge 9, 3) := by decide +kernel
theorem dL_cell_6 : decode cL_cell 6 = .ok (.aload_n 0, 1) := by decide +kernel
theorem dL_cell_7 : decode cL_cell 7 = .ok (.iload_n 1, 1) := by decide +kernel
theorem dL_cell_8 : decode cL_cell 8 = .ok (.iaload, 1) := by decide +kernel
theorem dL_cell_9 : decode cL_cell 9 = .ok (.goto 11, 3) := by decide +kernel
theorem dL_cell_12 : decode cL_cell 12 = .ok (.ldc 7, 2) := by decide +kernel
theorem dL_cell_14 : decode cL_cell 14 = .ok (.iload_n 1, 1) := by decide +kernel
theorem dL_cell_15 : decode cL_cell 15 = .ok (.sipush 1483, 3) := by decide +kernel
theorem dL_cell_18 : decode cL_cell 18 = .ok (.iadd, 1) := by decide +kernel
theorem dL_cell_19 : decode cL_cell 19 = .ok (.imul, 1) := by decide +kernel
theorem dL_cell_20 : decode cL_cell 20 = .ok (.ireturn, 1) := by decide +kernel
theorem dL_up_0 : decode cL_up 0 = .ok (.iload_n 0, 1) := by decide +kernel
theorem dL_up_1 : decode cL_up 1 = .ok (.ldc 8, 2) := by decide +kernel
theorem dL_up_3 : decode cL_up 3 = .ok (.iand, 1) := by decide +kernel
theorem dL_up_4 : decode cL_up 4 = .ok (.iload_n 1, 1) := by decide +kernel
theorem dL_up_5 : decode cL_up 5 = .ok (.irem, 1) := by decide +kernel
theorem dL_up_6 : decode cL_up 6 = .ok (.ireturn, 1) := by decide +kernel
set_option maxRecDepth 20000 in
theorem ggL_here_L_up : GoodIn wsL_here wsL_up := goodIn_r _ [4, 5] (by decide +kernel) (by decide +kernel)
set_option maxRecDepth 20000 in
theorem gL_here_L_up : GoodIn wsL_here (va_wsS RL 9 yL_up wsL_up) := goodIn_app (goodIn_of _ (by decide +kernel)) ggL_here_L_up
theorem dL_here_0 : decode cL_here 0 = .ok (.iload_n 0, 1) := by decide +kernel
theorem dL_here_1 : decode cL_here 1 = .ok (.tableswitch 77 0 6 #[43, 46, 49, 65, 68, 71, 74], 43) := by decide +kernel
theorem dL_here_44 : decode cL_here 44 = .ok (.bipush 104, 2) := by decide +kernel
theorem dL_here_46 : decode cL_here 46 = .ok (.ireturn, 1) := by decide +kernel
theorem dL_here_47 : decode cL_here 47 = .ok (.bipush 98, 2) := by decide +kernel
theorem dL_here_49 : decode cL_here 49 = .ok (.ireturn, 1) := by decide +kernel
theorem dL_here_50 : decode cL_here 50 = .ok (.iload_n 1, 1) := by decide +kernel
theorem dL_here_51 : decode cL_here 51 = .ok (.iconst 2, 1) := by decide +kernel
theorem dL_here_52 : decode cL_here 52 = .ok (.invokestatic 9, 3) := by decide +kernel
theorem dL_here_55 : decode cL_here 55 = .ok (.ifCond .ne 8, 3) := by decide +kernel
theorem dL_here_58 : decode cL_here 58 = .ok (.bipush 99, 2) := by decide +kernel
theorem dL_here_60 : decode cL_here 60 = .ok (.goto 5, 3) := by decide +kernel
theorem dL_here_63 : decode cL_here 63 = .ok (.bipush 115, 2) := by decide +kernel
theorem dL_here_65 : decode cL_here 65 = .ok (.ireturn, 1) := by decide +kernel
theorem dL_here_66 : decode cL_here 66 = .ok (.bipush 100, 2) := by decide +kernel
theorem dL_here_68 : decode cL_here 68 = .ok (.ireturn, 1) := by decide +kernel
theorem dL_here_69 : decode cL_here 69 = .ok (.bipush 102, 2) := by decide +kernel
theorem dL_here_71 : decode cL_here 71 = .ok (.ireturn, 1) := by decide +kernel
theorem dL_here_72 : decode cL_here 72 = .ok (.bipush 108, 2) := by decide +kernel
theorem dL_here_74 : decode cL_here 74 = .ok (.ireturn, 1) := by decide +kernel
theorem dL_here_75 : decode cL_here 75 = .ok (.bipush 109, 2) := by decide +kernel
theorem dL_here_77 : decode cL_here 77 = .ok (.ireturn, 1) := by decide +kernel
theorem dL_here_78 : decode cL_here 78 = .ok (.iload_n 1, 1) := by decide +kernel
theorem dL_here_79 : decode cL_here 79 = .ok (.iconst 2, 1) := by decide +kernel
theorem dL_here_80 : decode cL_here 80 = .ok (.invokestatic 9, 3) := by decide +kernel
theorem dL_here_83 : decode cL_here 83 = .ok (.ifCond .ne 8, 3) := by decide +kernel
theorem dL_here_86 : decode cL_here 86 = .ok (.bipush 97, 2) := by decide +kernel
theorem dL_here_88 : decode cL_here 88 = .ok (.goto 5, 3) := by decide +kernel
theorem dL_here_91 : decode cL_here 91 = .ok (.bipush 105, 2) := by decide +kernel
theorem dL_here_93 : decode cL_here 93 = .ok (.ireturn, 1) := by decide +kernel
set_option maxRecDepth 20000 in
theorem ggL_there_L_up : GoodIn wsL_there wsL_up := goodIn_r _ [4, 5] (by decide +kernel) (by decide +kernel)
set_option maxRecDepth 20000 in
theorem gL_there_L_up : GoodIn wsL_there (va_wsS RL 9 yL_up wsL_up) := goodIn_app (goodIn_of _ (by decide +kernel)) ggL_there_L_up
theorem dL_there_0 : decode cL_there 0 = .ok (.iload_n 0, 1) := by decide +kernel
theorem dL_there_1 : decode cL_there 1 = .ok (.tableswitch 104 0 6 #[43, 46, 49, 79, 82, 98, 101], 43) := by decide +kernel
theorem dL_there_44 : decode cL_there 44 = .ok (.bipush 121, 2) := by decide +kernel
theorem dL_there_46 : decode cL_there 46 = .ok (.ireturn, 1) := by decide +kernel
theorem dL_there_47 : decode cL_there 47 = .ok (.bipush 112, 2) := by decide +kernel
theorem dL_there_49 : decode cL_there 49 = .ok (.ireturn, 1) := by decide +kernel
theorem dL_there_50 : decode cL_there 50 = .ok (.iload_n 1, 1) := by decide +kernel
theorem dL_there_51 : decode cL_there 51 = .ok (.iconst 3, 1) := by decide +kernel
theorem dL_there_52 : decode cL_there 52 = .ok (.invokestatic 9, 3) := by decide +kernel
theorem dL_there_55 : decode cL_there 55 = .ok (.ifCond .ne 8, 3) := by decide +kernel
theorem dL_there_58 : decode cL_there 58 = .ok (.bipush 113, 2) := by decide +kernel
theorem dL_there_60 : decode cL_there 60 = .ok (.goto 19, 3) := by decide +kernel
theorem dL_there_63 : decode cL_there 63 = .ok (.iload_n 1, 1) := by decide +kernel
theorem dL_there_64 : decode cL_there 64 = .ok (.iconst 3, 1) := by decide +kernel
theorem dL_there_65 : decode cL_there 65 = .ok (.invokestatic 9, 3) := by decide +kernel
theorem dL_there_68 : decode cL_there 68 = .ok (.iconst 1, 1) := by decide +kernel
theorem dL_there_69 : decode cL_there 69 = .ok (.if_icmp .ne 8, 3) := by decide +kernel
theorem dL_there_72 : decode cL_there 72 = .ok (.bipush 120, 2) := by decide +kernel
theorem dL_there_74 : decode cL_there 74 = .ok (.goto 5, 3) := by decide +kernel
theorem dL_there_77 : decode cL_there 77 = .ok (.bipush 106, 2) := by decide +kernel
theorem dL_there_79 : decode cL_there 79 = .ok (.ireturn, 1) := by decide +kernel
theorem dL_there_80 : decode cL_there 80 = .ok (.bipush 116, 2) := by decide +kernel
theorem dL_there_82 : decode cL_there 82 = .ok (.ireturn, 1) := by decide +kernel
theorem dL_there_83 : decode cL_there 83 = .ok (.iload_n 1, 1) := by decide +kernel
theorem dL_there_84 : decode cL_there 84 = .ok (.iconst 2, 1) := by decide +kernel
theorem dL_there_85 : decode cL_there 85 = .ok (.invokestatic 9, 3) := by decide +kernel
theorem dL_there_88 : decode cL_there 88 = .ok (.ifCond .ne 8, 3) := by decide +kernel
theorem dL_there_91 : decode cL_there 91 = .ok (.bipush 119, 2) := by decide +kernel
theorem dL_there_93 : decode cL_there 93 = .ok (.goto 5, 3) := by decide +kernel
theorem dL_there_96 : decode cL_there 96 = .ok (.bipush 118, 2) := by decide +kernel
theorem dL_there_98 : decode cL_there 98 = .ok (.ireturn, 1) := by decide +kernel
theorem dL_there_99 : decode cL_there 99 = .ok (.bipush 114, 2) := by decide +kernel
theorem dL_there_101 : decode cL_there 101 = .ok (.ireturn, 1) := by decide +kernel
theorem dL_there_102 : decode cL_there 102 = .ok (.bipush 110, 2) := by decide +kernel
theorem dL_there_104 : decode cL_there 104 = .ok (.ireturn, 1) := by decide +kernel
theorem dL_there_105 : decode cL_there 105 = .ok (.iload_n 1, 1) := by decide +kernel
theorem dL_there_106 : decode cL_there 106 = .ok (.iconst 3, 1) := by decide +kernel
theorem dL_there_107 : decode cL_there 107 = .ok (.invokestatic 9, 3) := by decide +kernel
theorem dL_there_110 : decode cL_there 110 = .ok (.ifCond .ne 8, 3) := by decide +kernel
theorem dL_there_113 : decode cL_there 113 = .ok (.bipush 101, 2) := by decide +kernel
theorem dL_there_115 : decode cL_there 115 = .ok (.goto 19, 3) := by decide +kernel
theorem dL_there_118 : decode cL_there 118 = .ok (.iload_n 1, 1) := by decide +kernel
theorem dL_there_119 : decode cL_there 119 = .ok (.iconst 3, 1) := by decide +kernel
theorem dL_there_120 : decode cL_there 120 = .ok (.invokestatic 9, 3) := by decide +kernel
theorem dL_there_123 : decode cL_there 123 = .ok (.iconst 1, 1) := by decide +kernel
theorem dL_there_124 : decode cL_there 124 = .ok (.if_icmp .ne 8, 3) := by decide +kernel
theorem dL_there_127 : decode cL_there 127 = .ok (.bipush 111, 2) := by decide +kernel
theorem dL_there_129 : decode cL_there 129 = .ok (.goto 5, 3) := by decide +kernel
theorem dL_there_132 : decode cL_there 132 = .ok (.bipush 117, 2) := by decide +kernel
theorem dL_there_134 : decode cL_there 134 = .ok (.ireturn, 1) := by decide +kernel
set_option maxRecDepth 20000 in
theorem ggL_isRead_X1_wipe : GoodIn wsL_isRead wsX1_wipe := goodIn_r _ [6, 7, 171, 172, 173, 174, 175, 176, 177, 178] (by decide +kernel) (by decide +kernel)
set_option maxRecDepth 20000 in
theorem gL_isRead_X1_wipe : GoodIn wsL_isRead (wsV RL 15 RX1 yX1_wipe wsX1_wipe) := goodIn_app (goodIn_of _ (by decide +kernel)) ggL_isRead_X1_wipe
set_option maxRecDepth 20000 in
theorem ggL_isRead_X1_count : GoodIn wsL_isRead wsX1_count := goodIn_r _ [11, 12, 13, 14, 15, 16, 17, 18, 7, 19, 20, 21, 22, 23, 24, 25, 26, 27, 28, 29, 30, 31, 32, 33, 34, 35, 36, 37, 38, 39, 40, 41, 42, 43, 44, 45, 5, 46, 47, 48, 49, 50, 51, 52, 53, 54, 55, 56, 57, 58, 59, 60, 61, 62, 63, 64, 65, 171, 172, 173, 174, 175, 176, 177, 178, 179, 180, 181, 182, 183, 184, 185, 186, 187, 188, 189, 190, 191, 192, 193, 194] (by decide +kernel) (by decide +kernel)
set_option maxRecDepth 20000 in
theorem gL_isRead_X1_count : GoodIn wsL_isRead (wsV RL 21 RX1 yX1_count wsX1_count) := goodIn_app (goodIn_of _ (by decide +kernel)) ggL_isRead_X1_count
set_option maxRecDepth 20000 in
theorem ggL_isRead_L_up : GoodIn wsL_isRead wsL_up := goodIn_r _ [69, 70] (by decide +kernel) (by decide +kernel)
set_option maxRecDepth 20000 in
theorem gL_isRead_L_up : GoodIn wsL_isRead (va_wsS RL 9 yL_up wsL_up) := goodIn_app (goodIn_of _ (by decide +kernel)) ggL_isRead_L_up
set_option maxRecDepth 20000 in
theorem ggL_isRead_X1_put : GoodIn wsL_isRead wsX1_put := goodIn_r _ [74, 7, 75, 76, 5, 77, 78, 79, 80, 81, 82, 83, 84, 85, 86, 171, 172, 173, 174, 175, 176, 177, 178] (by decide +kernel) (by decide +kernel)
set_option maxRecDepth 20000 in
theorem gL_isRead_X1_put : GoodIn wsL_isRead (wsV RL 27 RX1 yX1_put wsX1_put) := goodIn_app (goodIn_of _ (by decide +kernel)) ggL_isRead_X1_put
set_option maxRecDepth 20000 in
theorem ggL_isRead_L_here : GoodIn wsL_isRead wsL_here := goodIn_r _ [89, 66, 67, 68, 69, 70] (by decide +kernel) (by decide +kernel)
set_option maxRecDepth 20000 in
theorem gL_isRead_L_here : GoodIn wsL_isRead (va_wsS RL 31 yL_here wsL_here) := goodIn_app (goodIn_of _ (by decide +kernel)) ggL_isRead_L_here
set_option maxRecDepth 20000 in
theorem ggL_isRead_L_there : GoodIn wsL_isRead wsL_there := goodIn_r _ [92, 66, 67, 68, 69, 70] (by decide +kernel) (by decide +kernel)
set_option maxRecDepth 20000 in
theorem gL_isRead_L_there : GoodIn wsL_isRead (va_wsS RL 34 yL_there wsL_there) := goodIn_app (goodIn_of _ (by decide +kernel)) ggL_isRead_L_there
set_option maxRecDepth 20000 in
theorem ggL_isRead_X1_read : GoodIn wsL_isRead wsX1_read := goodIn_r _ [96, 12, 15, 7, 86, 97, 98, 99, 5, 100, 101, 102, 103, 104, 105, 106, 107, 108, 109, 110, 111, 112, 113, 114, 19, 115, 116, 117, 118, 13, 14, 119, 120, 121, 122, 123, 124, 125, 126, 127, 128, 129, 130, 131, 18, 132, 16, 17, 133, 134, 135, 136, 137, 138, 139, 140, 141, 142, 23, 143, 25, 144, 145, 146, 147, 34, 148, 61, 149, 150, 151, 152, 153, 154, 155, 156, 171, 172, 173, 174, 175, 176, 177, 178, 179, 180, 181, 182, 183, 184, 185, 186, 187, 188, 189, 190, 191, 192, 193, 194] (by decide +kernel) (by decide +kernel)
set_option maxRecDepth 20000 in
theorem gL_isRead_X1_read : GoodIn wsL_isRead (wsV RL 37 RX1 yX1_read wsX1_read) := goodIn_app (goodIn_of _ (by decide +kernel)) ggL_isRead_X1_read
set_option maxRecDepth 20000 in
theorem ggL_isRead_X1_name : GoodIn wsL_isRead wsX1_name := goodIn_r _ [160, 12, 130, 129, 128, 18, 161, 63, 64, 23, 65, 25, 162, 31, 32, 33, 34, 35, 36, 37, 38, 39, 163, 164, 165, 166, 167, 168, 169, 170, 147, 26, 27, 28, 29, 30, 171, 172, 173, 174, 175, 176, 177, 178, 179, 180, 181, 182, 183, 184, 185, 186, 187, 188, 189, 190, 191, 192, 193, 194] (by decide +kernel) (by decide +kernel)
set_option maxRecDepth 20000 in
theorem gL_isRead_X1_name : GoodIn wsL_isRead (wsV RL 40 RX1 yX1_name wsX1_name) := goodIn_app (goodIn_of _ (by decide +kernel)) ggL_isRead_X1_name
theorem dL_isRead_0 : decode cL_isRead 0 = .ok (.aload_n 0, 1) := by decide +kernel
theorem dL_isRead_1 : decode cL_isRead 1 = .ok (.invokevirtual 15, 3) := by decide +kernel
theorem dL_isRead_4 : decode cL_isRead 4 = .ok (.ifCond .lt 7, 3) := by decide +kernel
theorem dL_isRead_7 : decode cL_isRead 7 = .ok (.iconst 1, 1) := by decide +kernel
theorem dL_isRead_8 : decode cL_isRead 8 = .ok (.goto 4, 3) := by decide +kernel
theorem dL_isRead_11 : decode cL_isRead 11 = .ok (.iconst 0, 1) := by decide +kernel
theorem dL_isRead_12 : decode cL_isRead 12 = .ok (.istore 4, 2) := by decide +kernel
theorem dL_isRead_14 : decode cL_isRead 14 = .ok (.aload_n 0, 1) := by decide +kernel
theorem dL_isRead_15 : decode cL_isRead 15 = .ok (.iconst 5, 1) := by decide +kernel
theorem dL_isRead_16 : decode cL_isRead 16 = .ok (.invokevirtual 21, 3) := by decide +kernel
theorem dL_isRead_19 : decode cL_isRead 19 = .ok (.istore 5, 2) := by decide +kernel
theorem dL_isRead_21 : decode cL_isRead 21 = .ok (.iconst 1, 1) := by decide +kernel
theorem dL_isRead_22 : decode cL_isRead 22 = .ok (.iload_n 2, 1) := by decide +kernel
theorem dL_isRead_23 : decode cL_isRead 23 = .ok (.iconst 3, 1) := by decide +kernel
theorem dL_isRead_24 : decode cL_isRead 24 = .ok (.invokestatic 9, 3) := by decide +kernel
theorem dL_isRead_27 : decode cL_isRead 27 = .ok (.iadd, 1) := by decide +kernel
theorem dL_isRead_28 : decode cL_isRead 28 = .ok (.istore 6, 2) := by decide +kernel
theorem dL_isRead_30 : decode cL_isRead 30 = .ok (.iload 5, 2) := by decide +kernel
theorem dL_isRead_32 : decode cL_isRead 32 = .ok (.iload 6, 2) := by decide +kernel
theorem dL_isRead_34 : decode cL_isRead 34 = .ok (.iadd, 1) := by decide +kernel
theorem dL_isRead_35 : decode cL_isRead 35 = .ok (.bipush 20, 2) := by decide +kernel
theorem dL_isRead_37 : decode cL_isRead 37 = .ok (.if_icmp .le 25, 3) := by decide +kernel
theorem dL_isRead_40 : decode cL_isRead 40 = .ok (.iload 4, 2) := by decide +kernel
theorem dL_isRead_42 : decode cL_isRead 42 = .ok (.ifCond .eq 18, 3) := by decide +kernel
theorem dL_isRead_45 : decode cL_isRead 45 = .ok (.aload_n 0, 1) := by decide +kernel
theorem dL_isRead_46 : decode cL_isRead 46 = .ok (.ldc2_w 25, 3) := by decide +kernel
theorem dL_isRead_49 : decode cL_isRead 49 = .ok (.invokevirtual 27, 3) := by decide +kernel
theorem dL_isRead_52 : decode cL_isRead 52 = .ok (.iconst 1, 1) := by decide +kernel
theorem dL_isRead_53 : decode cL_isRead 53 = .ok (.if_icmp .ne 7, 3) := by decide +kernel
theorem dL_isRead_56 : decode cL_isRead 56 = .ok (.iconst 1, 1) := by decide +kernel
theorem dL_isRead_57 : decode cL_isRead 57 = .ok (.goto 4, 3) := by decide +kernel
theorem dL_isRead_60 : decode cL_isRead 60 = .ok (.iconst 0, 1) := by decide +kernel
theorem dL_isRead_61 : decode cL_isRead 61 = .ok (.ireturn, 1) := by decide +kernel
theorem dL_isRead_62 : decode cL_isRead 62 = .ok (.iconst 0, 1) := by decide +kernel
theorem dL_isRead_63 : decode cL_isRead 63 = .ok (.istore 7, 2) := by decide +kernel
theorem dL_isRead_65 : decode cL_isRead 65 = .ok (.iload 7, 2) := by decide +kernel
theorem dL_isRead_67 : decode cL_isRead 67 = .ok (.iload 6, 2) := by decide +kernel
theorem dL_isRead_69 : decode cL_isRead 69 = .ok (.if_icmp .ge 262, 3) := by decide +kernel
theorem dL_isRead_72 : decode cL_isRead 72 = .ok (.iload_n 2, 1) := by decide +kernel
theorem dL_isRead_73 : decode cL_isRead 73 = .ok (.iconst 2, 1) := by decide +kernel
theorem dL_isRead_74 : decode cL_isRead 74 = .ok (.iload 7, 2) := by decide +kernel
theorem dL_isRead_76 : decode cL_isRead 76 = .ok (.imul, 1) := by decide +kernel
theorem dL_isRead_77 : decode cL_isRead 77 = .ok (.ishr, 1) := by decide +kernel
theorem dL_isRead_78 : decode cL_isRead 78 = .ok (.iload_n 3, 1) := by decide +kernel
theorem dL_isRead_79 : decode cL_isRead 79 = .ok (.iconst 3, 1) := by decide +kernel
theorem dL_isRead_80 : decode cL_isRead 80 = .ok (.iload 7, 2) := by decide +kernel
theorem dL_isRead_82 : decode cL_isRead 82 = .ok (.imul, 1) := by decide +kernel
theorem dL_isRead_83 : decode cL_isRead 83 = .ok (.ishr, 1) := by decide +kernel
theorem dL_isRead_84 : decode cL_isRead 84 = .ok (.ixor, 1) := by decide +kernel
theorem dL_isRead_85 : decode cL_isRead 85 = .ok (.istore 8, 2) := by decide +kernel
theorem dL_isRead_87 : decode cL_isRead 87 = .ok (.iconst 2, 1) := by decide +kernel
theorem dL_isRead_88 : decode cL_isRead 88 = .ok (.iload 8, 2) := by decide +kernel
theorem dL_isRead_90 : decode cL_isRead 90 = .ok (.iload 8, 2) := by decide +kernel
theorem dL_isRead_92 : decode cL_isRead 92 = .ok (.bipush 9, 2) := by decide +kernel
theorem dL_isRead_94 : decode cL_isRead 94 = .ok (.ishr, 1) := by decide +kernel
theorem dL_isRead_95 : decode cL_isRead 95 = .ok (.iconst 4, 1) := by decide +kernel
theorem dL_isRead_96 : decode cL_isRead 96 = .ok (.invokestatic 9, 3) := by decide +kernel
theorem dL_isRead_99 : decode cL_isRead 99 = .ok (.ifCond .ne 8, 3) := by decide +kernel
theorem dL_isRead_102 : decode cL_isRead 102 = .ok (.bipush 8, 2) := by decide +kernel
theorem dL_isRead_104 : decode cL_isRead 104 = .ok (.goto 4, 3) := by decide +kernel
theorem dL_isRead_107 : decode cL_isRead 107 = .ok (.iconst 3, 1) := by decide +kernel
theorem dL_isRead_108 : decode cL_isRead 108 = .ok (.invokestatic 9, 3) := by decide +kernel
theorem dL_isRead_111 : decode cL_isRead 111 = .ok (.iadd, 1) := by decide +kernel
theorem dL_isRead_112 : decode cL_isRead 112 = .ok (.istore 9, 2) := by decide +kernel
theorem dL_isRead_114 : decode cL_isRead 114 = .ok (.iload 8, 2) := by decide +kernel
theorem dL_isRead_116 : decode cL_isRead 116 = .ok (.iconst 5, 1) := by decide +kernel
theorem dL_isRead_117 : decode cL_isRead 117 = .ok (.ishr, 1) := by decide +kernel
theorem dL_isRead_118 : decode cL_isRead 118 = .ok (.bipush 10, 2) := by decide +kernel
theorem dL_isRead_120 : decode cL_isRead 120 = .ok (.invokestatic 9, 3) := by decide +kernel
theorem dL_isRead_123 : decode cL_isRead 123 = .ok (.istore 10, 2) := by decide +kernel
theorem dL_isRead_125 : decode cL_isRead 125 = .ok (.iload 4, 2) := by decide +kernel
theorem dL_isRead_127 : decode cL_isRead 127 = .ok (.ifCond .eq 14, 3) := by decide +kernel
theorem dL_isRead_130 : decode cL_isRead 130 = .ok (.aload_n 1, 1) := by decide +kernel
theorem dL_isRead_131 : decode cL_isRead 131 = .ok (.invokevirtual 15, 3) := by decide +kernel
theorem dL_isRead_134 : decode cL_isRead 134 = .ok (.ifCond .lt 7, 3) := by decide +kernel
theorem dL_isRead_137 : decode cL_isRead 137 = .ok (.iconst 1, 1) := by decide +kernel
theorem dL_isRead_138 : decode cL_isRead 138 = .ok (.goto 4, 3) := by decide +kernel
theorem dL_isRead_141 : decode cL_isRead 141 = .ok (.iconst 0, 1) := by decide +kernel
theorem dL_isRead_142 : decode cL_isRead 142 = .ok (.istore 4, 2) := by decide +kernel
theorem dL_isRead_144 : decode cL_isRead 144 = .ok (.iconst 0, 1) := by decide +kernel
theorem dL_isRead_145 : decode cL_isRead 145 = .ok (.istore 11, 2) := by decide +kernel
theorem dL_isRead_147 : decode cL_isRead 147 = .ok (.iload 11, 2) := by decide +kernel
theorem dL_isRead_149 : decode cL_isRead 149 = .ok (.iload 9, 2) := by decide +kernel
theorem dL_isRead_151 : decode cL_isRead 151 = .ok (.if_icmp .ge 92, 3) := by decide +kernel
theorem dL_isRead_154 : decode cL_isRead 154 = .ok (.iload 8, 2) := by decide +kernel
theorem dL_isRead_156 : decode cL_isRead 156 = .ok (.iload 11, 2) := by decide +kernel
theorem dL_isRead_158 : decode cL_isRead 158 = .ok (.ishr, 1) := by decide +kernel
theorem dL_isRead_159 : decode cL_isRead 159 = .ok (.iconst 5, 1) := by decide +kernel
theorem dL_isRead_160 : decode cL_isRead 160 = .ok (.invokestatic 9, 3) := by decide +kernel
theorem dL_isRead_163 : decode cL_isRead 163 = .ok (.ifCond .ne 8, 3) := by decide +kernel
theorem dL_isRead_166 : decode cL_isRead 166 = .ok (.bipush 7, 2) := by decide +kernel
theorem dL_isRead_168 : decode cL_isRead 168 = .ok (.goto 13, 3) := by decide +kernel
theorem dL_isRead_171 : decode cL_isRead 171 = .ok (.iload 8, 2) := by decide +kernel
theorem dL_isRead_173 : decode cL_isRead 173 = .ok (.iload 11, 2) := by decide +kernel
theorem dL_isRead_175 : decode cL_isRead 175 = .ok (.ishr, 1) := by decide +kernel
theorem dL_isRead_176 : decode cL_isRead 176 = .ok (.bipush 8, 2) := by decide +kernel
theorem dL_isRead_178 : decode cL_isRead 178 = .ok (.invokestatic 9, 3) := by decide +kernel
theorem dL_isRead_181 : decode cL_isRead 181 = .ok (.istore 12, 2) := by decide +kernel
theorem dL_isRead_183 : decode cL_isRead 183 = .ok (.iload 4, 2) := by decide +kernel
theorem dL_isRead_185 : decode cL_isRead 185 = .ok (.ifCond .eq 49, 3) := by decide +kernel
theorem dL_isRead_188 : decode cL_isRead 188 = .ok (.aload_n 0, 1) := by decide +kernel
theorem dL_isRead_189 : decode cL_isRead 189 = .ok (.iload 12, 2) := by decide +kernel
theorem dL_isRead_191 : decode cL_isRead 191 = .ok (.iload 8, 2) := by decide +kernel
theorem dL_isRead_193 : decode cL_isRead 193 = .ok (.iload 11, 2) := by decide +kernel
theorem dL_isRead_195 : decode cL_isRead 195 = .ok (.ishr, 1) := by decide +kernel
theorem dL_isRead_196 : decode cL_isRead 196 = .ok (.invokestatic 31, 3) := by decide +kernel
theorem dL_isRead_199 : decode cL_isRead 199 = .ok (.i2l, 1) := by decide +kernel
theorem dL_isRead_200 : decode cL_isRead 200 = .ok (.invokevirtual 27, 3) := by decide +kernel
theorem dL_isRead_203 : decode cL_isRead 203 = .ok (.ifCond .le 31, 3) := by decide +kernel
theorem dL_isRead_206 : decode cL_isRead 206 = .ok (.aload_n 1, 1) := by decide +kernel
theorem dL_isRead_207 : decode cL_isRead 207 = .ok (.iload 12, 2) := by decide +kernel
theorem dL_isRead_209 : decode cL_isRead 209 = .ok (.iload 8, 2) := by decide +kernel
theorem dL_isRead_211 : decode cL_isRead 211 = .ok (.iload 11, 2) := by decide +kernel
theorem dL_isRead_213 : decode cL_isRead 213 = .ok (.iconst 2, 1) := by decide +kernel
theorem dL_isRead_214 : decode cL_isRead 214 = .ok (.iadd, 1) := by decide +kernel
theorem dL_isRead_215 : decode cL_isRead 215 = .ok (.ishr, 1) := by decide +kernel
theorem dL_isRead_216 : decode cL_isRead 216 = .ok (.invokestatic 34, 3) := by decide +kernel
theorem dL_isRead_219 : decode cL_isRead 219 = .ok (.i2l, 1) := by decide +kernel
theorem dL_isRead_220 : decode cL_isRead 220 = .ok (.invokevirtual 27, 3) := by decide +kernel
theorem dL_isRead_223 : decode cL_isRead 223 = .ok (.iload 11, 2) := by decide +kernel
theorem dL_isRead_225 : decode cL_isRead 225 = .ok (.iconst 1, 1) := by decide +kernel
theorem dL_isRead_226 : decode cL_isRead 226 = .ok (.iadd, 1) := by decide +kernel
theorem dL_isRead_227 : decode cL_isRead 227 = .ok (.if_icmp .ne 7, 3) := by decide +kernel
theorem dL_isRead_230 : decode cL_isRead 230 = .ok (.iconst 1, 1) := by decide +kernel
theorem dL_isRead_231 : decode cL_isRead 231 = .ok (.goto 4, 3) := by decide +kernel
theorem dL_isRead_234 : decode cL_isRead 234 = .ok (.iconst 0, 1) := by decide +kernel
theorem dL_isRead_235 : decode cL_isRead 235 = .ok (.istore 4, 2) := by decide +kernel
theorem dL_isRead_237 : decode cL_isRead 237 = .ok (.iinc 11 1, 3) := by decide +kernel
theorem dL_isRead_240 : decode cL_isRead 240 = .ok (.goto (-93), 3) := by decide +kernel
theorem dL_isRead_243 : decode cL_isRead 243 = .ok (.iload 4, 2) := by decide +kernel
theorem dL_isRead_245 : decode cL_isRead 245 = .ok (.ifCond .eq 77, 3) := by decide +kernel
theorem dL_isRead_248 : decode cL_isRead 248 = .ok (.aload_n 0, 1) := by decide +kernel
theorem dL_isRead_249 : decode cL_isRead 249 = .ok (.bipush 48, 2) := by decide +kernel
theorem dL_isRead_251 : decode cL_isRead 251 = .ok (.iload 10, 2) := by decide +kernel
theorem dL_isRead_253 : decode cL_isRead 253 = .ok (.iadd, 1) := by decide +kernel
theorem dL_isRead_254 : decode cL_isRead 254 = .ok (.i2l, 1) := by decide +kernel
theorem dL_isRead_255 : decode cL_isRead 255 = .ok (.invokevirtual 27, 3) := by decide +kernel
theorem dL_isRead_258 : decode cL_isRead 258 = .ok (.ifCond .le 64, 3) := by decide +kernel
theorem dL_isRead_261 : decode cL_isRead 261 = .ok (.aload_n 1, 1) := by decide +kernel
theorem dL_isRead_262 : decode cL_isRead 262 = .ok (.bipush 48, 2) := by decide +kernel
theorem dL_isRead_264 : decode cL_isRead 264 = .ok (.iload 10, 2) := by decide +kernel
theorem dL_isRead_266 : decode cL_isRead 266 = .ok (.iadd, 1) := by decide +kernel
theorem dL_isRead_267 : decode cL_isRead 267 = .ok (.i2l, 1) := by decide +kernel
theorem dL_isRead_268 : decode cL_isRead 268 = .ok (.invokevirtual 27, 3) := by decide +kernel
theorem dL_isRead_271 : decode cL_isRead 271 = .ok (.ifCond .le 51, 3) := by decide +kernel
theorem dL_isRead_274 : decode cL_isRead 274 = .ok (.aload_n 1, 1) := by decide +kernel
theorem dL_isRead_275 : decode cL_isRead 275 = .ok (.invokevirtual 37, 3) := by decide +kernel
theorem dL_isRead_278 : decode cL_isRead 278 = .ok (.iload 5, 2) := by decide +kernel
theorem dL_isRead_280 : decode cL_isRead 280 = .ok (.iload 7, 2) := by decide +kernel
theorem dL_isRead_282 : decode cL_isRead 282 = .ok (.iadd, 1) := by decide +kernel
theorem dL_isRead_283 : decode cL_isRead 283 = .ok (.iconst 1, 1) := by decide +kernel
theorem dL_isRead_284 : decode cL_isRead 284 = .ok (.iadd, 1) := by decide +kernel
theorem dL_isRead_285 : decode cL_isRead 285 = .ok (.if_icmp .ne 37, 3) := by decide +kernel
theorem dL_isRead_288 : decode cL_isRead 288 = .ok (.aload_n 1, 1) := by decide +kernel
theorem dL_isRead_289 : decode cL_isRead 289 = .ok (.iload 5, 2) := by decide +kernel
theorem dL_isRead_291 : decode cL_isRead 291 = .ok (.iload 7, 2) := by decide +kernel
theorem dL_isRead_293 : decode cL_isRead 293 = .ok (.iadd, 1) := by decide +kernel
theorem dL_isRead_294 : decode cL_isRead 294 = .ok (.iconst 0, 1) := by decide +kernel
theorem dL_isRead_295 : decode cL_isRead 295 = .ok (.invokevirtual 40, 3) := by decide +kernel
theorem dL_isRead_298 : decode cL_isRead 298 = .ok (.iload 10, 2) := by decide +kernel
theorem dL_isRead_300 : decode cL_isRead 300 = .ok (.if_icmp .ne 22, 3) := by decide +kernel
theorem dL_isRead_303 : decode cL_isRead 303 = .ok (.aload_n 1, 1) := by decide +kernel
theorem dL_isRead_304 : decode cL_isRead 304 = .ok (.iload 5, 2) := by decide +kernel
theorem dL_isRead_306 : decode cL_isRead 306 = .ok (.iload 7, 2) := by decide +kernel
theorem dL_isRead_308 : decode cL_isRead 308 = .ok (.iadd, 1) := by decide +kernel
theorem dL_isRead_309 : decode cL_isRead 309 = .ok (.iconst 5, 1) := by decide +kernel
theorem dL_isRead_310 : decode cL_isRead 310 = .ok (.invokevirtual 40, 3) := by decide +kernel
theorem dL_isRead_313 : decode cL_isRead 313 = .ok (.iload 9, 2) := by decide +kernel
theorem dL_isRead_315 : decode cL_isRead 315 = .ok (.if_icmp .ne 7, 3) := by decide +kernel
theorem dL_isRead_318 : decode cL_isRead 318 = .ok (.iconst 1, 1) := by decide +kernel
theorem dL_isRead_319 : decode cL_isRead 319 = .ok (.goto 4, 3) := by decide +kernel
theorem dL_isRead_322 : decode cL_isRead 322 = .ok (.iconst 0, 1) := by decide +kernel
theorem dL_isRead_323 : decode cL_isRead 323 = .ok (.istore 4, 2) := by decide +kernel
theorem dL_isRead_325 : decode cL_isRead 325 = .ok (.iinc 7 1, 3) := by decide +kernel
theorem dL_isRead_328 : decode cL_isRead 328 = .ok (.goto (-263), 3) := by decide +kernel
theorem dL_isRead_331 : decode cL_isRead 331 = .ok (.iload 4, 2) := by decide +kernel
theorem dL_isRead_333 : decode cL_isRead 333 = .ok (.ifCond .eq 32, 3) := by decide +kernel
theorem dL_isRead_336 : decode cL_isRead 336 = .ok (.aload_n 0, 1) := by decide +kernel
theorem dL_isRead_337 : decode cL_isRead 337 = .ok (.invokevirtual 37, 3) := by decide +kernel
theorem dL_isRead_340 : decode cL_isRead 340 = .ok (.iload 5, 2) := by decide +kernel
theorem dL_isRead_342 : decode cL_isRead 342 = .ok (.iload 6, 2) := by decide +kernel
theorem dL_isRead_344 : decode cL_isRead 344 = .ok (.iadd, 1) := by decide +kernel
theorem dL_isRead_345 : decode cL_isRead 345 = .ok (.if_icmp .ne 20, 3) := by decide +kernel
theorem dL_isRead_348 : decode cL_isRead 348 = .ok (.aload_n 0, 1) := by decide +kernel
theorem dL_isRead_349 : decode cL_isRead 349 = .ok (.iconst 5, 1) := by decide +kernel
theorem dL_isRead_350 : decode cL_isRead 350 = .ok (.invokevirtual 21, 3) := by decide +kernel
theorem dL_isRead_353 : decode cL_isRead 353 = .ok (.iload 5, 2) := by decide +kernel
theorem dL_isRead_355 : decode cL_isRead 355 = .ok (.iload 6, 2) := by decide +kernel
theorem dL_isRead_357 : decode cL_isRead 357 = .ok (.iadd, 1) := by decide +kernel
theorem dL_isRead_358 : decode cL_isRead 358 = .ok (.if_icmp .ne 7, 3) := by decide +kernel
theorem dL_isRead_361 : decode cL_isRead 361 = .ok (.iconst 1, 1) := by decide +kernel
theorem dL_isRead_362 : decode cL_isRead 362 = .ok (.goto 4, 3) := by decide +kernel
theorem dL_isRead_365 : decode cL_isRead 365 = .ok (.iconst 0, 1) := by decide +kernel
theorem dL_isRead_366 : decode cL_isRead 366 = .ok (.ireturn, 1) := by decide +kernel
set_option maxRecDepth 20000 in
theorem ggL_isStep_X1_count : GoodIn wsL_isStep wsX1_count := goodIn_r _ [5, 6, 7, 8, 9, 10, 11, 12, 13, 14, 15, 16, 17, 18, 19, 20, 21, 22, 23, 24, 25, 26, 27, 28, 29, 30, 31, 32, 33, 34, 35, 36, 37, 38, 39, 40, 4, 41, 42, 43, 44, 45, 46, 47, 48, 49, 50, 51, 52, 53, 54, 55, 56, 57, 58, 59, 60, 292, 293, 294, 295, 296, 297, 298, 299, 300, 301, 302, 303, 304, 305, 306, 307, 308, 309, 310, 311, 312, 313, 314, 315] (by decide +kernel) (by decide +kernel)
set_option maxRecDepth 20000 in
theorem gL_isStep_X1_count : GoodIn wsL_isStep (wsV RL 21 RX1 yX1_count wsX1_count) := goodIn_app (goodIn_of _ (by decide +kernel)) ggL_isStep_X1_count
set_option maxRecDepth 20000 in
theorem ggL_isStep_L_up : GoodIn wsL_isStep wsL_up := goodIn_r _ [64, 65] (by decide +kernel) (by decide +kernel)
set_option maxRecDepth 20000 in
theorem gL_isStep_L_up : GoodIn wsL_isStep (va_wsS RL 9 yL_up wsL_up) := goodIn_app (goodIn_of _ (by decide +kernel)) ggL_isStep_L_up
set_option maxRecDepth 20000 in
theorem ggL_isStep_X1_set : GoodIn wsL_isStep wsX1_set := goodIn_r _ [69, 70, 71, 6, 7, 72, 73, 74, 4, 75, 14, 76, 77, 78, 79, 8, 9, 80, 81, 82, 83, 84, 85, 86, 87, 88, 89, 90, 91, 92, 12, 93, 10, 11, 94, 95, 96, 97, 98, 99, 100, 292, 293, 294, 295, 296, 297, 298, 299, 300, 301, 302, 303, 304, 305, 306, 307, 308, 309, 310, 311, 312, 313, 314, 315] (by decide +kernel) (by decide +kernel)
set_option maxRecDepth 20000 in
theorem gL_isStep_X1_set : GoodIn wsL_isStep (wsV RL 43 RX1 yX1_set wsX1_set) := goodIn_app (goodIn_of _ (by decide +kernel)) ggL_isStep_X1_set
set_option maxRecDepth 20000 in
theorem ggL_isStep_X1_name : GoodIn wsL_isStep wsX1_name := goodIn_r _ [104, 6, 91, 90, 89, 12, 105, 58, 59, 18, 60, 20, 106, 26, 27, 28, 29, 30, 31, 32, 33, 34, 107, 108, 109, 110, 111, 112, 113, 114, 115, 21, 22, 23, 24, 25, 292, 293, 294, 295, 296, 297, 298, 299, 300, 301, 302, 303, 304, 305, 306, 307, 308, 309, 310, 311, 312, 313, 314, 315] (by decide +kernel) (by decide +kernel)
set_option maxRecDepth 20000 in
theorem gL_isStep_X1_name : GoodIn wsL_isStep (wsV RL 40 RX1 yX1_name wsX1_name) := goodIn_app (goodIn_of _ (by decide +kernel)) ggL_isStep_X1_name
set_option maxRecDepth 20000 in
theorem ggL_isStep_X1_honour : GoodIn wsL_isStep wsX1_honour := goodIn_r _ [119, 6, 91, 105, 58, 59, 18, 60, 20, 72, 73, 74, 4, 75, 14, 76, 77, 78, 79, 7, 8, 9, 80, 81, 82, 83, 84, 85, 86, 87, 88, 89, 90, 92, 12, 93, 10, 11, 94, 95, 96, 97, 98, 99, 100, 292, 293, 294, 295, 296, 297, 298, 299, 300, 301, 302, 303, 304, 305, 306, 307, 308, 309, 310, 311, 312, 313, 314, 315] (by decide +kernel) (by decide +kernel)
set_option maxRecDepth 20000 in
theorem gL_isStep_X1_honour : GoodIn wsL_isStep (wsV RL 46 RX1 yX1_honour wsX1_honour) := goodIn_app (goodIn_of _ (by decide +kernel)) ggL_isStep_X1_honour
set_option maxRecDepth 20000 in
theorem ggL_isStep_X1_withdraw : GoodIn wsL_isStep wsX1_withdraw := goodIn_r _ [123, 6, 92, 105, 58, 59, 18, 60, 20, 72, 73, 74, 4, 75, 14, 76, 77, 78, 79, 7, 8, 9, 80, 81, 82, 83, 84, 85, 86, 87, 88, 89, 90, 91, 12, 93, 10, 11, 94, 95, 96, 97, 98, 99, 100, 124, 125, 126, 127, 29, 34, 30, 31, 32, 33, 128, 129, 130, 131, 292, 293, 294, 295, 296, 297, 298, 299, 300, 301, 302, 303, 304, 305, 306, 307, 308, 309, 310, 311, 312, 313, 314, 315] (by decide +kernel) (by decide +kernel)
set_option maxRecDepth 20000 in
theorem gL_isStep_X1_withdraw : GoodIn wsL_isStep (wsV RL 49 RX1 yX1_withdraw wsX1_withdraw) := goodIn_app (goodIn_of _ (by decide +kernel)) ggL_isStep_X1_withdraw
set_option maxRecDepth 20000 in
theorem ggL_isStep_X1_corner : GoodIn wsL_isStep wsX1_corner := goodIn_r _ [135, 6, 93, 10, 11, 94, 95, 97, 136, 137, 4, 138, 292, 293, 294, 295, 296, 297, 298, 299, 300, 301, 302, 303, 304, 305, 306, 307, 308, 309, 310, 311, 312, 313, 314, 315] (by decide +kernel) (by decide +kernel)
set_option maxRecDepth 20000 in
theorem gL_isStep_X1_corner : GoodIn wsL_isStep (wsV RL 52 RX1 yX1_corner wsX1_corner) := goodIn_app (goodIn_of _ (by decide +kernel)) ggL_isStep_X1_corner
set_option maxRecDepth 20000 in
theorem ggL_isStep_X1_strip : GoodIn wsL_isStep wsX1_strip := goodIn_r _ [142, 6, 93, 10, 136, 137, 4, 138, 72, 73, 74, 75, 14, 76, 77, 78, 79, 7, 8, 9, 80, 81, 82, 83, 84, 85, 86, 87, 88, 89, 90, 91, 92, 12, 11, 94, 95, 96, 97, 98, 99, 100, 143, 129, 130, 18, 131, 34, 292, 293, 294, 295, 296, 297, 298, 299, 300, 301, 302, 303, 304, 305, 306, 307, 308, 309, 310, 311, 312, 313, 314, 315] (by decide +kernel) (by decide +kernel)
set_option maxRecDepth 20000 in
theorem gL_isStep_X1_strip : GoodIn wsL_isStep (wsV RL 55 RX1 yX1_strip wsX1_strip) := goodIn_app (goodIn_of _ (by decide +kernel)) ggL_isStep_X1_strip
set_option maxRecDepth 20000 in
theorem ggL_isStep_X1_issue : GoodIn wsL_isStep wsX1_issue := goodIn_r _ [147, 6, 72, 73, 74, 4, 75, 14, 76, 77, 78, 79, 7, 8, 9, 80, 81, 82, 83, 84, 85, 86, 87, 88, 89, 90, 91, 92, 12, 93, 10, 11, 94, 95, 96, 97, 98, 99, 100, 42, 43, 44, 18, 45, 46, 47, 34, 148, 149, 150, 151, 292, 293, 294, 295, 296, 297, 298, 299, 300, 301, 302, 303, 304, 305, 306, 307, 308, 309, 310, 311, 312, 313, 314, 315] (by decide +kernel) (by decide +kernel)
set_option maxRecDepth 20000 in
theorem gL_isStep_X1_issue : GoodIn wsL_isStep (wsV RL 58 RX1 yX1_issue wsX1_issue) := goodIn_app (goodIn_of _ (by decide +kernel)) ggL_isStep_X1_issue
set_option maxRecDepth 20000 in
theorem ggL_isStep_X1_save : GoodIn wsL_isStep wsX1_save := goodIn_r _ [155, 6, 156, 157, 8, 158, 159, 4, 160, 77, 78, 79, 7, 9, 80, 81, 82, 83, 84, 85, 86, 87, 88, 89, 90, 91, 92, 12, 93, 10, 11, 94, 95, 96, 97, 98, 99, 100, 292, 293, 294, 295, 296, 297, 298, 299, 300, 301, 302, 303, 304, 305, 306, 307, 308, 309, 310, 311, 312, 313, 314, 315] (by decide +kernel) (by decide +kernel)
set_option maxRecDepth 20000 in
theorem gL_isStep_X1_save : GoodIn wsL_isStep (wsV RL 61 RX1 yX1_save wsX1_save) := goodIn_app (goodIn_of _ (by decide +kernel)) ggL_isStep_X1_save
set_option maxRecDepth 20000 in
theorem ggL_isStep_X1_restore : GoodIn wsL_isStep wsX1_restore := goodIn_r _ [164, 157, 156, 6, 8, 158, 159, 4, 160, 72, 73, 74, 75, 14, 76, 77, 78, 79, 7, 9, 80, 81, 82, 83, 84, 85, 86, 87, 88, 89, 90, 91, 92, 12, 93, 10, 11, 94, 95, 96, 97, 98, 99, 100, 292, 293, 294, 295, 296, 297, 298, 299, 300, 301, 302, 303, 304, 305, 306, 307, 308, 309, 310, 311, 312, 313, 314, 315] (by decide +kernel) (by decide +kernel)
set_option maxRecDepth 20000 in
theorem gL_isStep_X1_restore : GoodIn wsL_isStep (wsV RL 64 RX1 yX1_restore wsX1_restore) := goodIn_app (goodIn_of _ (by decide +kernel)) ggL_isStep_X1_restore
set_option maxRecDepth 20000 in
theorem ggL_isStep_L_isRead : GoodIn wsL_isStep wsL_isRead := goodIn_r _ [167, 168, 169, 170, 171, 4, 172, 13, 1, 2, 3, 5, 6, 7, 8, 9, 10, 11, 12, 14, 15, 16, 17, 18, 19, 20, 21, 22, 23, 24, 25, 26, 27, 28, 29, 30, 31, 32, 33, 34, 35, 36, 37, 38, 39, 40, 41, 42, 43, 44, 45, 46, 47, 48, 49, 50, 51, 52, 53, 54, 55, 56, 57, 58, 59, 60, 61, 62, 63, 64, 65, 173, 174, 175, 176, 177, 178, 179, 180, 181, 182, 183, 184, 185, 186, 187, 188, 189, 190, 191, 192, 193, 194, 195, 196, 197, 198, 199, 200, 201, 202, 203, 204, 205, 206, 207, 208, 209, 210, 211, 212, 72, 73, 74, 75, 76, 77, 78, 79, 80, 81, 82, 83, 84, 85, 86, 87, 88, 89, 90, 91, 92, 93, 94, 95, 96, 97, 98, 99, 100, 213, 214, 215, 216, 217, 218, 219, 115, 220, 221, 222, 223, 224, 225, 226, 227, 228, 101, 102, 103, 104, 105, 106, 107, 108, 109, 110, 111, 112, 113, 114, 292, 293, 294, 295, 296, 297, 298, 299, 300, 301, 302, 303, 304, 305, 306, 307, 308, 309, 310, 311, 312, 313, 314, 315] (by decide +kernel) (by decide +kernel)
set_option maxRecDepth 20000 in
theorem gL_isStep_L_isRead : GoodIn wsL_isStep (va_wsS RL 67 yL_isRead wsL_isRead) := goodIn_app (goodIn_of _ (by decide +kernel)) ggL_isStep_L_isRead
set_option maxRecDepth 20000 in
theorem ggL_isStep_X1_pass : GoodIn wsL_isStep wsX1_pass := goodIn_r _ [232, 6, 8, 72, 73, 74, 4, 75, 14, 76, 77, 78, 79, 7, 9, 80, 81, 82, 83, 84, 85, 86, 87, 88, 89, 90, 91, 92, 12, 93, 10, 11, 94, 95, 96, 97, 98, 99, 100, 233, 234, 235, 18, 236, 237, 238, 239, 240, 241, 20, 115, 21, 22, 23, 24, 25, 26, 27, 28, 29, 30, 31, 32, 33, 34, 242, 243, 244, 245, 246, 247, 248, 249, 52, 53, 54, 55, 56, 57, 58, 59, 60, 250, 251, 252, 253, 254, 255, 256, 257, 258, 259, 260, 261, 262, 263, 264, 265, 266, 267, 268, 220, 269, 270, 271, 272, 273, 274, 275, 276, 277, 278, 292, 293, 294, 295, 296, 297, 298, 299, 300, 301, 302, 303, 304, 305, 306, 307, 308, 309, 310, 311, 312, 313, 314, 315] (by decide +kernel) (by decide +kernel)
set_option maxRecDepth 20000 in
theorem gL_isStep_X1_pass : GoodIn wsL_isStep (wsV RL 71 RX1 yX1_pass wsX1_pass) := goodIn_app (goodIn_of _ (by decide +kernel)) ggL_isStep_X1_pass
set_option maxRecDepth 20000 in
theorem ggL_isStep_X1_why : GoodIn wsL_isStep wsX1_why := goodIn_r _ [282, 6, 105, 58, 59, 18, 60, 20, 136, 137, 4, 138, 283, 284, 285, 286, 30, 31, 32, 33, 34, 246, 247, 248, 249, 52, 53, 54, 55, 56, 57, 250, 251, 252, 253, 254, 255, 256, 83, 257, 258, 82, 84, 259, 260, 261, 262, 29, 115, 237, 263, 292, 293, 294, 295, 296, 297, 298, 299, 300, 301, 302, 303, 304, 305, 306, 307, 308, 309, 310, 311, 312, 313, 314, 315] (by decide +kernel) (by decide +kernel)
set_option maxRecDepth 20000 in
theorem gL_isStep_X1_why : GoodIn wsL_isStep (wsV RL 74 RX1 yX1_why wsX1_why) := goodIn_app (goodIn_of _ (by decide +kernel)) ggL_isStep_X1_why
set_option maxRecDepth 20000 in
theorem ggL_isStep_X1_give : GoodIn wsL_isStep wsX1_give := goodIn_r _ [290, 6, 10, 105, 58, 59, 18, 60, 20, 136, 137, 4, 138, 283, 284, 285, 286, 30, 31, 32, 33, 34, 246, 247, 248, 249, 52, 53, 54, 55, 56, 57, 250, 251, 252, 253, 254, 255, 256, 83, 257, 258, 82, 84, 259, 260, 261, 262, 29, 115, 237, 263, 72, 73, 74, 75, 14, 76, 77, 78, 79, 7, 8, 9, 80, 81, 85, 86, 87, 88, 89, 90, 91, 92, 12, 93, 11, 94, 95, 96, 97, 98, 99, 100, 291, 265, 266, 267, 268, 220, 269, 292, 293, 294, 295, 296, 297, 298, 299, 300, 301, 302, 303, 304, 305, 306, 307, 308, 309, 310, 311, 312, 313, 314, 315] (by decide +kernel) (by decide +kernel)
set_option maxRecDepth 20000 in
theorem gL_isStep_X1_give : GoodIn wsL_isStep (wsV RL 77 RX1 yX1_give wsX1_give) := goodIn_app (goodIn_of _ (by decide +kernel)) ggL_isStep_X1_give
theorem dL_isStep_0 : decode cL_isStep 0 = .ok (.iload_n 2, 1) := by decide +kernel
theorem dL_isStep_1 : decode cL_isStep 1 = .ok (.iconst 4, 1) := by decide +kernel
theorem dL_isStep_2 : decode cL_isStep 2 = .ok (.ishr, 1) := by decide +kernel
theorem dL_isStep_3 : decode cL_isStep 3 = .ok (.istore 4, 2) := by decide +kernel
theorem dL_isStep_5 : decode cL_isStep 5 = .ok (.iload 4, 2) := by decide +kernel
theorem dL_isStep_7 : decode cL_isStep 7 = .ok (.aload_n 0, 1) := by decide +kernel
theorem dL_isStep_8 : decode cL_isStep 8 = .ok (.iconst 5, 1) := by decide +kernel
theorem dL_isStep_9 : decode cL_isStep 9 = .ok (.invokevirtual 21, 3) := by decide +kernel
theorem dL_isStep_12 : decode cL_isStep 12 = .ok (.iconst 1, 1) := by decide +kernel
theorem dL_isStep_13 : decode cL_isStep 13 = .ok (.iadd, 1) := by decide +kernel
theorem dL_isStep_14 : decode cL_isStep 14 = .ok (.invokestatic 9, 3) := by decide +kernel
theorem dL_isStep_17 : decode cL_isStep 17 = .ok (.istore 5, 2) := by decide +kernel
theorem dL_isStep_19 : decode cL_isStep 19 = .ok (.iload_n 3, 1) := by decide +kernel
theorem dL_isStep_20 : decode cL_isStep 20 = .ok (.bipush 12, 2) := by decide +kernel
theorem dL_isStep_22 : decode cL_isStep 22 = .ok (.invokestatic 9, 3) := by decide +kernel
theorem dL_isStep_25 : decode cL_isStep 25 = .ok (.istore 6, 2) := by decide +kernel
theorem dL_isStep_27 : decode cL_isStep 27 = .ok (.iload_n 2, 1) := by decide +kernel
theorem dL_isStep_28 : decode cL_isStep 28 = .ok (.bipush 18, 2) := by decide +kernel
theorem dL_isStep_30 : decode cL_isStep 30 = .ok (.invokestatic 9, 3) := by decide +kernel
theorem dL_isStep_33 : decode cL_isStep 33 = .ok (.tableswitch 736 0 13 #[71, 184, 258, 397, 488, 529, 597, 597, 597, 597, 606, 606, 606, 606], 71) := by decide +kernel
theorem dL_isStep_104 : decode cL_isStep 104 = .ok (.iload 4, 2) := by decide +kernel
theorem dL_isStep_106 : decode cL_isStep 106 = .ok (.iconst 4, 1) := by decide +kernel
theorem dL_isStep_107 : decode cL_isStep 107 = .ok (.invokestatic 9, 3) := by decide +kernel
theorem dL_isStep_110 : decode cL_isStep 110 = .ok (.istore 7, 2) := by decide +kernel
theorem dL_isStep_112 : decode cL_isStep 112 = .ok (.iload 7, 2) := by decide +kernel
theorem dL_isStep_114 : decode cL_isStep 114 = .ok (.ifCond .ne 12, 3) := by decide +kernel
theorem dL_isStep_117 : decode cL_isStep 117 = .ok (.iload_n 3, 1) := by decide +kernel
theorem dL_isStep_118 : decode cL_isStep 118 = .ok (.bipush 12, 2) := by decide +kernel
theorem dL_isStep_120 : decode cL_isStep 120 = .ok (.invokestatic 9, 3) := by decide +kernel
theorem dL_isStep_123 : decode cL_isStep 123 = .ok (.goto 41, 3) := by decide +kernel
theorem dL_isStep_126 : decode cL_isStep 126 = .ok (.iload 7, 2) := by decide +kernel
theorem dL_isStep_128 : decode cL_isStep 128 = .ok (.iconst 1, 1) := by decide +kernel
theorem dL_isStep_129 : decode cL_isStep 129 = .ok (.if_icmp .ne 14, 3) := by decide +kernel
theorem dL_isStep_132 : decode cL_isStep 132 = .ok (.iconst 1, 1) := by decide +kernel
theorem dL_isStep_133 : decode cL_isStep 133 = .ok (.iload_n 3, 1) := by decide +kernel
theorem dL_isStep_134 : decode cL_isStep 134 = .ok (.bipush 6, 2) := by decide +kernel
theorem dL_isStep_136 : decode cL_isStep 136 = .ok (.invokestatic 9, 3) := by decide +kernel
theorem dL_isStep_139 : decode cL_isStep 139 = .ok (.iadd, 1) := by decide +kernel
theorem dL_isStep_140 : decode cL_isStep 140 = .ok (.goto 24, 3) := by decide +kernel
theorem dL_isStep_143 : decode cL_isStep 143 = .ok (.iload 7, 2) := by decide +kernel
theorem dL_isStep_145 : decode cL_isStep 145 = .ok (.iconst 2, 1) := by decide +kernel
theorem dL_isStep_146 : decode cL_isStep 146 = .ok (.if_icmp .ne 12, 3) := by decide +kernel
theorem dL_isStep_149 : decode cL_isStep 149 = .ok (.iload_n 3, 1) := by decide +kernel
theorem dL_isStep_150 : decode cL_isStep 150 = .ok (.bipush 10, 2) := by decide +kernel
theorem dL_isStep_152 : decode cL_isStep 152 = .ok (.invokestatic 9, 3) := by decide +kernel
theorem dL_isStep_155 : decode cL_isStep 155 = .ok (.goto 9, 3) := by decide +kernel
theorem dL_isStep_158 : decode cL_isStep 158 = .ok (.iload_n 3, 1) := by decide +kernel
theorem dL_isStep_159 : decode cL_isStep 159 = .ok (.bipush 61, 2) := by decide +kernel
theorem dL_isStep_161 : decode cL_isStep 161 = .ok (.invokestatic 9, 3) := by decide +kernel
theorem dL_isStep_164 : decode cL_isStep 164 = .ok (.istore 8, 2) := by decide +kernel
theorem dL_isStep_166 : decode cL_isStep 166 = .ok (.aload_n 0, 1) := by decide +kernel
theorem dL_isStep_167 : decode cL_isStep 167 = .ok (.iload 7, 2) := by decide +kernel
theorem dL_isStep_169 : decode cL_isStep 169 = .ok (.invokevirtual 21, 3) := by decide +kernel
theorem dL_isStep_172 : decode cL_isStep 172 = .ok (.istore 9, 2) := by decide +kernel
theorem dL_isStep_174 : decode cL_isStep 174 = .ok (.aload_n 0, 1) := by decide +kernel
theorem dL_isStep_175 : decode cL_isStep 175 = .ok (.iload 7, 2) := by decide +kernel
theorem dL_isStep_177 : decode cL_isStep 177 = .ok (.iload 8, 2) := by decide +kernel
theorem dL_isStep_179 : decode cL_isStep 179 = .ok (.invokevirtual 43, 3) := by decide +kernel
theorem dL_isStep_182 : decode cL_isStep 182 = .ok (.iload 9, 2) := by decide +kernel
theorem dL_isStep_184 : decode cL_isStep 184 = .ok (.if_icmp .ne 31, 3) := by decide +kernel
theorem dL_isStep_187 : decode cL_isStep 187 = .ok (.aload_n 1, 1) := by decide +kernel
theorem dL_isStep_188 : decode cL_isStep 188 = .ok (.iload 7, 2) := by decide +kernel
theorem dL_isStep_190 : decode cL_isStep 190 = .ok (.iload 8, 2) := by decide +kernel
theorem dL_isStep_192 : decode cL_isStep 192 = .ok (.invokevirtual 43, 3) := by decide +kernel
theorem dL_isStep_195 : decode cL_isStep 195 = .ok (.iload 9, 2) := by decide +kernel
theorem dL_isStep_197 : decode cL_isStep 197 = .ok (.if_icmp .ne 18, 3) := by decide +kernel
theorem dL_isStep_200 : decode cL_isStep 200 = .ok (.aload_n 0, 1) := by decide +kernel
theorem dL_isStep_201 : decode cL_isStep 201 = .ok (.iload 7, 2) := by decide +kernel
theorem dL_isStep_203 : decode cL_isStep 203 = .ok (.invokevirtual 21, 3) := by decide +kernel
theorem dL_isStep_206 : decode cL_isStep 206 = .ok (.iload 8, 2) := by decide +kernel
theorem dL_isStep_208 : decode cL_isStep 208 = .ok (.if_icmp .ne 7, 3) := by decide +kernel
theorem dL_isStep_211 : decode cL_isStep 211 = .ok (.iconst 1, 1) := by decide +kernel
theorem dL_isStep_212 : decode cL_isStep 212 = .ok (.goto 4, 3) := by decide +kernel
theorem dL_isStep_215 : decode cL_isStep 215 = .ok (.iconst 0, 1) := by decide +kernel
theorem dL_isStep_216 : decode cL_isStep 216 = .ok (.ireturn, 1) := by decide +kernel
theorem dL_isStep_217 : decode cL_isStep 217 = .ok (.aload_n 0, 1) := by decide +kernel
theorem dL_isStep_218 : decode cL_isStep 218 = .ok (.iload 5, 2) := by decide +kernel
theorem dL_isStep_220 : decode cL_isStep 220 = .ok (.iconst 0, 1) := by decide +kernel
theorem dL_isStep_221 : decode cL_isStep 221 = .ok (.invokevirtual 40, 3) := by decide +kernel
theorem dL_isStep_224 : decode cL_isStep 224 = .ok (.istore 7, 2) := by decide +kernel
theorem dL_isStep_226 : decode cL_isStep 226 = .ok (.aload_n 0, 1) := by decide +kernel
theorem dL_isStep_227 : decode cL_isStep 227 = .ok (.iload 5, 2) := by decide +kernel
theorem dL_isStep_229 : decode cL_isStep 229 = .ok (.iload_n 3, 1) := by decide +kernel
theorem dL_isStep_230 : decode cL_isStep 230 = .ok (.bipush 10, 2) := by decide +kernel
theorem dL_isStep_232 : decode cL_isStep 232 = .ok (.invokestatic 9, 3) := by decide +kernel
theorem dL_isStep_235 : decode cL_isStep 235 = .ok (.invokevirtual 46, 3) := by decide +kernel
theorem dL_isStep_238 : decode cL_isStep 238 = .ok (.istore 8, 2) := by decide +kernel
theorem dL_isStep_240 : decode cL_isStep 240 = .ok (.iload 8, 2) := by decide +kernel
theorem dL_isStep_242 : decode cL_isStep 242 = .ok (.aload_n 1, 1) := by decide +kernel
theorem dL_isStep_243 : decode cL_isStep 243 = .ok (.iload 5, 2) := by decide +kernel
theorem dL_isStep_245 : decode cL_isStep 245 = .ok (.iload_n 3, 1) := by decide +kernel
theorem dL_isStep_246 : decode cL_isStep 246 = .ok (.bipush 10, 2) := by decide +kernel
theorem dL_isStep_248 : decode cL_isStep 248 = .ok (.invokestatic 9, 3) := by decide +kernel
theorem dL_isStep_251 : decode cL_isStep 251 = .ok (.invokevirtual 46, 3) := by decide +kernel
theorem dL_isStep_254 : decode cL_isStep 254 = .ok (.if_icmp .ne 35, 3) := by decide +kernel
theorem dL_isStep_257 : decode cL_isStep 257 = .ok (.iload 8, 2) := by decide +kernel
theorem dL_isStep_259 : decode cL_isStep 259 = .ok (.iload 7, 2) := by decide +kernel
theorem dL_isStep_261 : decode cL_isStep 261 = .ok (.if_icmp .ne 28, 3) := by decide +kernel
theorem dL_isStep_264 : decode cL_isStep 264 = .ok (.iload 8, 2) := by decide +kernel
theorem dL_isStep_266 : decode cL_isStep 266 = .ok (.ifCond .lt 19, 3) := by decide +kernel
theorem dL_isStep_269 : decode cL_isStep 269 = .ok (.aload_n 0, 1) := by decide +kernel
theorem dL_isStep_270 : decode cL_isStep 270 = .ok (.iload 5, 2) := by decide +kernel
theorem dL_isStep_272 : decode cL_isStep 272 = .ok (.iconst 0, 1) := by decide +kernel
theorem dL_isStep_273 : decode cL_isStep 273 = .ok (.invokevirtual 40, 3) := by decide +kernel
theorem dL_isStep_276 : decode cL_isStep 276 = .ok (.iload_n 3, 1) := by decide +kernel
theorem dL_isStep_277 : decode cL_isStep 277 = .ok (.bipush 10, 2) := by decide +kernel
theorem dL_isStep_279 : decode cL_isStep 279 = .ok (.invokestatic 9, 3) := by decide +kernel
theorem dL_isStep_282 : decode cL_isStep 282 = .ok (.if_icmp .ne 7, 3) := by decide +kernel
theorem dL_isStep_285 : decode cL_isStep 285 = .ok (.iconst 1, 1) := by decide +kernel
theorem dL_isStep_286 : decode cL_isStep 286 = .ok (.goto 4, 3) := by decide +kernel
theorem dL_isStep_289 : decode cL_isStep 289 = .ok (.iconst 0, 1) := by decide +kernel
theorem dL_isStep_290 : decode cL_isStep 290 = .ok (.ireturn, 1) := by decide +kernel
theorem dL_isStep_291 : decode cL_isStep 291 = .ok (.aload_n 0, 1) := by decide +kernel
theorem dL_isStep_292 : decode cL_isStep 292 = .ok (.iload 5, 2) := by decide +kernel
theorem dL_isStep_294 : decode cL_isStep 294 = .ok (.iconst 2, 1) := by decide +kernel
theorem dL_isStep_295 : decode cL_isStep 295 = .ok (.invokevirtual 40, 3) := by decide +kernel
theorem dL_isStep_298 : decode cL_isStep 298 = .ok (.istore 7, 2) := by decide +kernel
theorem dL_isStep_300 : decode cL_isStep 300 = .ok (.aload_n 0, 1) := by decide +kernel
theorem dL_isStep_301 : decode cL_isStep 301 = .ok (.iload 5, 2) := by decide +kernel
theorem dL_isStep_303 : decode cL_isStep 303 = .ok (.iconst 1, 1) := by decide +kernel
theorem dL_isStep_304 : decode cL_isStep 304 = .ok (.invokevirtual 40, 3) := by decide +kernel
theorem dL_isStep_307 : decode cL_isStep 307 = .ok (.istore 8, 2) := by decide +kernel
theorem dL_isStep_309 : decode cL_isStep 309 = .ok (.aload_n 0, 1) := by decide +kernel
theorem dL_isStep_310 : decode cL_isStep 310 = .ok (.bipush 8, 2) := by decide +kernel
theorem dL_isStep_312 : decode cL_isStep 312 = .ok (.invokevirtual 21, 3) := by decide +kernel
theorem dL_isStep_315 : decode cL_isStep 315 = .ok (.istore 9, 2) := by decide +kernel
theorem dL_isStep_317 : decode cL_isStep 317 = .ok (.iload_n 3, 1) := by decide +kernel
theorem dL_isStep_318 : decode cL_isStep 318 = .ok (.iconst 3, 1) := by decide +kernel
theorem dL_isStep_319 : decode cL_isStep 319 = .ok (.invokestatic 9, 3) := by decide +kernel
theorem dL_isStep_322 : decode cL_isStep 322 = .ok (.ifCond .le 5, 3) := by decide +kernel
theorem dL_isStep_325 : decode cL_isStep 325 = .ok (.iconst 1, 1) := by decide +kernel
theorem dL_isStep_326 : decode cL_isStep 326 = .ok (.ireturn, 1) := by decide +kernel
theorem dL_isStep_327 : decode cL_isStep 327 = .ok (.aload_n 0, 1) := by decide +kernel
theorem dL_isStep_328 : decode cL_isStep 328 = .ok (.iload 5, 2) := by decide +kernel
theorem dL_isStep_330 : decode cL_isStep 330 = .ok (.invokevirtual 49, 3) := by decide +kernel
theorem dL_isStep_333 : decode cL_isStep 333 = .ok (.istore 10, 2) := by decide +kernel
theorem dL_isStep_335 : decode cL_isStep 335 = .ok (.iconst 0, 1) := by decide +kernel
theorem dL_isStep_336 : decode cL_isStep 336 = .ok (.istore 11, 2) := by decide +kernel
theorem dL_isStep_338 : decode cL_isStep 338 = .ok (.iconst 0, 1) := by decide +kernel
theorem dL_isStep_339 : decode cL_isStep 339 = .ok (.istore 12, 2) := by decide +kernel
theorem dL_isStep_341 : decode cL_isStep 341 = .ok (.iload 12, 2) := by decide +kernel
theorem dL_isStep_343 : decode cL_isStep 343 = .ok (.bipush 12, 2) := by decide +kernel
theorem dL_isStep_345 : decode cL_isStep 345 = .ok (.if_icmp .ge 30, 3) := by decide +kernel
theorem dL_isStep_348 : decode cL_isStep 348 = .ok (.iload 11, 2) := by decide +kernel
theorem dL_isStep_350 : decode cL_isStep 350 = .ok (.iload 7, 2) := by decide +kernel
theorem dL_isStep_352 : decode cL_isStep 352 = .ok (.ifCond .le 13, 3) := by decide +kernel
theorem dL_isStep_355 : decode cL_isStep 355 = .ok (.iload 7, 2) := by decide +kernel
theorem dL_isStep_357 : decode cL_isStep 357 = .ok (.iload 12, 2) := by decide +kernel
theorem dL_isStep_359 : decode cL_isStep 359 = .ok (.ishr, 1) := by decide +kernel
theorem dL_isStep_360 : decode cL_isStep 360 = .ok (.iconst 1, 1) := by decide +kernel
theorem dL_isStep_361 : decode cL_isStep 361 = .ok (.iand, 1) := by decide +kernel
theorem dL_isStep_362 : decode cL_isStep 362 = .ok (.goto 4, 3) := by decide +kernel
theorem dL_isStep_365 : decode cL_isStep 365 = .ok (.iconst 0, 1) := by decide +kernel
theorem dL_isStep_366 : decode cL_isStep 366 = .ok (.iadd, 1) := by decide +kernel
theorem dL_isStep_367 : decode cL_isStep 367 = .ok (.istore 11, 2) := by decide +kernel
theorem dL_isStep_369 : decode cL_isStep 369 = .ok (.iinc 12 1, 3) := by decide +kernel
theorem dL_isStep_372 : decode cL_isStep 372 = .ok (.goto (-31), 3) := by decide +kernel
theorem dL_isStep_375 : decode cL_isStep 375 = .ok (.iload 10, 2) := by decide +kernel
theorem dL_isStep_377 : decode cL_isStep 377 = .ok (.aload_n 1, 1) := by decide +kernel
theorem dL_isStep_378 : decode cL_isStep 378 = .ok (.iload 5, 2) := by decide +kernel
theorem dL_isStep_380 : decode cL_isStep 380 = .ok (.invokevirtual 49, 3) := by decide +kernel
theorem dL_isStep_383 : decode cL_isStep 383 = .ok (.if_icmp .ne 45, 3) := by decide +kernel
theorem dL_isStep_386 : decode cL_isStep 386 = .ok (.iload 10, 2) := by decide +kernel
theorem dL_isStep_388 : decode cL_isStep 388 = .ok (.iload 8, 2) := by decide +kernel
theorem dL_isStep_390 : decode cL_isStep 390 = .ok (.ifCond .ge 7, 3) := by decide +kernel
theorem dL_isStep_393 : decode cL_isStep 393 = .ok (.iconst (-1), 1) := by decide +kernel
theorem dL_isStep_394 : decode cL_isStep 394 = .ok (.goto 16, 3) := by decide +kernel
theorem dL_isStep_397 : decode cL_isStep 397 = .ok (.iload 8, 2) := by decide +kernel
theorem dL_isStep_399 : decode cL_isStep 399 = .ok (.iconst 2, 1) := by decide +kernel
theorem dL_isStep_400 : decode cL_isStep 400 = .ok (.if_icmp .ne 8, 3) := by decide +kernel
theorem dL_isStep_403 : decode cL_isStep 403 = .ok (.bipush (-5), 2) := by decide +kernel
theorem dL_isStep_405 : decode cL_isStep 405 = .ok (.goto 5, 3) := by decide +kernel
theorem dL_isStep_408 : decode cL_isStep 408 = .ok (.iload 11, 2) := by decide +kernel
theorem dL_isStep_410 : decode cL_isStep 410 = .ok (.if_icmp .ne 18, 3) := by decide +kernel
theorem dL_isStep_413 : decode cL_isStep 413 = .ok (.aload_n 0, 1) := by decide +kernel
theorem dL_isStep_414 : decode cL_isStep 414 = .ok (.bipush 8, 2) := by decide +kernel
theorem dL_isStep_416 : decode cL_isStep 416 = .ok (.invokevirtual 21, 3) := by decide +kernel
theorem dL_isStep_419 : decode cL_isStep 419 = .ok (.iload 9, 2) := by decide +kernel
theorem dL_isStep_421 : decode cL_isStep 421 = .ok (.if_icmp .ne 7, 3) := by decide +kernel
theorem dL_isStep_424 : decode cL_isStep 424 = .ok (.iconst 1, 1) := by decide +kernel
theorem dL_isStep_425 : decode cL_isStep 425 = .ok (.goto 4, 3) := by decide +kernel
theorem dL_isStep_428 : decode cL_isStep 428 = .ok (.iconst 0, 1) := by decide +kernel
theorem dL_isStep_429 : decode cL_isStep 429 = .ok (.ireturn, 1) := by decide +kernel
theorem dL_isStep_430 : decode cL_isStep 430 = .ok (.aload_n 0, 1) := by decide +kernel
theorem dL_isStep_431 : decode cL_isStep 431 = .ok (.iload 6, 2) := by decide +kernel
theorem dL_isStep_433 : decode cL_isStep 433 = .ok (.iconst 0, 1) := by decide +kernel
theorem dL_isStep_434 : decode cL_isStep 434 = .ok (.invokevirtual 52, 3) := by decide +kernel
theorem dL_isStep_437 : decode cL_isStep 437 = .ok (.istore 7, 2) := by decide +kernel
theorem dL_isStep_439 : decode cL_isStep 439 = .ok (.aload_n 0, 1) := by decide +kernel
theorem dL_isStep_440 : decode cL_isStep 440 = .ok (.iload 6, 2) := by decide +kernel
theorem dL_isStep_442 : decode cL_isStep 442 = .ok (.iconst 1, 1) := by decide +kernel
theorem dL_isStep_443 : decode cL_isStep 443 = .ok (.invokevirtual 52, 3) := by decide +kernel
theorem dL_isStep_446 : decode cL_isStep 446 = .ok (.istore 8, 2) := by decide +kernel
theorem dL_isStep_448 : decode cL_isStep 448 = .ok (.aload_n 0, 1) := by decide +kernel
theorem dL_isStep_449 : decode cL_isStep 449 = .ok (.iload 6, 2) := by decide +kernel
theorem dL_isStep_451 : decode cL_isStep 451 = .ok (.invokevirtual 55, 3) := by decide +kernel
theorem dL_isStep_454 : decode cL_isStep 454 = .ok (.istore 9, 2) := by decide +kernel
theorem dL_isStep_456 : decode cL_isStep 456 = .ok (.iload 9, 2) := by decide +kernel
theorem dL_isStep_458 : decode cL_isStep 458 = .ok (.aload_n 1, 1) := by decide +kernel
theorem dL_isStep_459 : decode cL_isStep 459 = .ok (.iload 6, 2) := by decide +kernel
theorem dL_isStep_461 : decode cL_isStep 461 = .ok (.invokevirtual 55, 3) := by decide +kernel
theorem dL_isStep_464 : decode cL_isStep 464 = .ok (.if_icmp .ne 55, 3) := by decide +kernel
theorem dL_isStep_467 : decode cL_isStep 467 = .ok (.iload 9, 2) := by decide +kernel
theorem dL_isStep_469 : decode cL_isStep 469 = .ok (.iload 7, 2) := by decide +kernel
theorem dL_isStep_471 : decode cL_isStep 471 = .ok (.ifCond .ge 8, 3) := by decide +kernel
theorem dL_isStep_474 : decode cL_isStep 474 = .ok (.bipush (-5), 2) := by decide +kernel
theorem dL_isStep_476 : decode cL_isStep 476 = .ok (.goto 5, 3) := by decide +kernel
theorem dL_isStep_479 : decode cL_isStep 479 = .ok (.iload 7, 2) := by decide +kernel
theorem dL_isStep_481 : decode cL_isStep 481 = .ok (.if_icmp .ne 38, 3) := by decide +kernel
theorem dL_isStep_484 : decode cL_isStep 484 = .ok (.iload 7, 2) := by decide +kernel
theorem dL_isStep_486 : decode cL_isStep 486 = .ok (.ifCond .lt 29, 3) := by decide +kernel
theorem dL_isStep_489 : decode cL_isStep 489 = .ok (.aload_n 0, 1) := by decide +kernel
theorem dL_isStep_490 : decode cL_isStep 490 = .ok (.iload 6, 2) := by decide +kernel
theorem dL_isStep_492 : decode cL_isStep 492 = .ok (.iconst 0, 1) := by decide +kernel
theorem dL_isStep_493 : decode cL_isStep 493 = .ok (.invokevirtual 52, 3) := by decide +kernel
theorem dL_isStep_496 : decode cL_isStep 496 = .ok (.bipush (-6), 2) := by decide +kernel
theorem dL_isStep_498 : decode cL_isStep 498 = .ok (.if_icmp .ne 21, 3) := by decide +kernel
theorem dL_isStep_501 : decode cL_isStep 501 = .ok (.aload_n 0, 1) := by decide +kernel
theorem dL_isStep_502 : decode cL_isStep 502 = .ok (.iload 6, 2) := by decide +kernel
theorem dL_isStep_504 : decode cL_isStep 504 = .ok (.iconst 1, 1) := by decide +kernel
theorem dL_isStep_505 : decode cL_isStep 505 = .ok (.invokevirtual 52, 3) := by decide +kernel
theorem dL_isStep_508 : decode cL_isStep 508 = .ok (.iload 8, 2) := by decide +kernel
theorem dL_isStep_510 : decode cL_isStep 510 = .ok (.iconst 1, 1) := by decide +kernel
theorem dL_isStep_511 : decode cL_isStep 511 = .ok (.iadd, 1) := by decide +kernel
theorem dL_isStep_512 : decode cL_isStep 512 = .ok (.if_icmp .ne 7, 3) := by decide +kernel
theorem dL_isStep_515 : decode cL_isStep 515 = .ok (.iconst 1, 1) := by decide +kernel
theorem dL_isStep_516 : decode cL_isStep 516 = .ok (.goto 4, 3) := by decide +kernel
theorem dL_isStep_519 : decode cL_isStep 519 = .ok (.iconst 0, 1) := by decide +kernel
theorem dL_isStep_520 : decode cL_isStep 520 = .ok (.ireturn, 1) := by decide +kernel
theorem dL_isStep_521 : decode cL_isStep 521 = .ok (.aload_n 0, 1) := by decide +kernel
theorem dL_isStep_522 : decode cL_isStep 522 = .ok (.bipush 11, 2) := by decide +kernel
theorem dL_isStep_524 : decode cL_isStep 524 = .ok (.invokevirtual 21, 3) := by decide +kernel
theorem dL_isStep_527 : decode cL_isStep 527 = .ok (.istore 7, 2) := by decide +kernel
theorem dL_isStep_529 : decode cL_isStep 529 = .ok (.aload_n 0, 1) := by decide +kernel
theorem dL_isStep_530 : decode cL_isStep 530 = .ok (.invokevirtual 58, 3) := by decide +kernel
theorem dL_isStep_533 : decode cL_isStep 533 = .ok (.iload 7, 2) := by decide +kernel
theorem dL_isStep_535 : decode cL_isStep 535 = .ok (.if_icmp .ne 25, 3) := by decide +kernel
theorem dL_isStep_538 : decode cL_isStep 538 = .ok (.aload_n 1, 1) := by decide +kernel
theorem dL_isStep_539 : decode cL_isStep 539 = .ok (.invokevirtual 58, 3) := by decide +kernel
theorem dL_isStep_542 : decode cL_isStep 542 = .ok (.iload 7, 2) := by decide +kernel
theorem dL_isStep_544 : decode cL_isStep 544 = .ok (.if_icmp .ne 16, 3) := by decide +kernel
theorem dL_isStep_547 : decode cL_isStep 547 = .ok (.aload_n 0, 1) := by decide +kernel
theorem dL_isStep_548 : decode cL_isStep 548 = .ok (.bipush 11, 2) := by decide +kernel
theorem dL_isStep_550 : decode cL_isStep 550 = .ok (.invokevirtual 21, 3) := by decide +kernel
theorem dL_isStep_553 : decode cL_isStep 553 = .ok (.ifCond .ne 7, 3) := by decide +kernel
theorem dL_isStep_556 : decode cL_isStep 556 = .ok (.iconst 1, 1) := by decide +kernel
theorem dL_isStep_557 : decode cL_isStep 557 = .ok (.goto 4, 3) := by decide +kernel
theorem dL_isStep_560 : decode cL_isStep 560 = .ok (.iconst 0, 1) := by decide +kernel
theorem dL_isStep_561 : decode cL_isStep 561 = .ok (.ireturn, 1) := by decide +kernel
theorem dL_isStep_562 : decode cL_isStep 562 = .ok (.iload_n 3, 1) := by decide +kernel
theorem dL_isStep_563 : decode cL_isStep 563 = .ok (.iconst 2, 1) := by decide +kernel
theorem dL_isStep_564 : decode cL_isStep 564 = .ok (.invokestatic 9, 3) := by decide +kernel
theorem dL_isStep_567 : decode cL_isStep 567 = .ok (.ifCond .ne 34, 3) := by decide +kernel
theorem dL_isStep_570 : decode cL_isStep 570 = .ok (.aload_n 0, 1) := by decide +kernel
theorem dL_isStep_571 : decode cL_isStep 571 = .ok (.iload 4, 2) := by decide +kernel
theorem dL_isStep_573 : decode cL_isStep 573 = .ok (.iconst 2, 1) := by decide +kernel
theorem dL_isStep_574 : decode cL_isStep 574 = .ok (.invokestatic 9, 3) := by decide +kernel
theorem dL_isStep_577 : decode cL_isStep 577 = .ok (.invokevirtual 61, 3) := by decide +kernel
theorem dL_isStep_580 : decode cL_isStep 580 = .ok (.aload_n 1, 1) := by decide +kernel
theorem dL_isStep_581 : decode cL_isStep 581 = .ok (.iload 4, 2) := by decide +kernel
theorem dL_isStep_583 : decode cL_isStep 583 = .ok (.iconst 2, 1) := by decide +kernel
theorem dL_isStep_584 : decode cL_isStep 584 = .ok (.invokestatic 9, 3) := by decide +kernel
theorem dL_isStep_587 : decode cL_isStep 587 = .ok (.invokevirtual 61, 3) := by decide +kernel
theorem dL_isStep_590 : decode cL_isStep 590 = .ok (.if_icmp .ne 7, 3) := by decide +kernel
theorem dL_isStep_593 : decode cL_isStep 593 = .ok (.iconst 1, 1) := by decide +kernel
theorem dL_isStep_594 : decode cL_isStep 594 = .ok (.goto 35, 3) := by decide +kernel
theorem dL_isStep_597 : decode cL_isStep 597 = .ok (.iconst 0, 1) := by decide +kernel
theorem dL_isStep_598 : decode cL_isStep 598 = .ok (.goto 31, 3) := by decide +kernel
theorem dL_isStep_601 : decode cL_isStep 601 = .ok (.aload_n 0, 1) := by decide +kernel
theorem dL_isStep_602 : decode cL_isStep 602 = .ok (.iload 4, 2) := by decide +kernel
theorem dL_isStep_604 : decode cL_isStep 604 = .ok (.iconst 2, 1) := by decide +kernel
theorem dL_isStep_605 : decode cL_isStep 605 = .ok (.invokestatic 9, 3) := by decide +kernel
theorem dL_isStep_608 : decode cL_isStep 608 = .ok (.invokevirtual 64, 3) := by decide +kernel
theorem dL_isStep_611 : decode cL_isStep 611 = .ok (.aload_n 1, 1) := by decide +kernel
theorem dL_isStep_612 : decode cL_isStep 612 = .ok (.iload 4, 2) := by decide +kernel
theorem dL_isStep_614 : decode cL_isStep 614 = .ok (.iconst 2, 1) := by decide +kernel
theorem dL_isStep_615 : decode cL_isStep 615 = .ok (.invokestatic 9, 3) := by decide +kernel
theorem dL_isStep_618 : decode cL_isStep 618 = .ok (.invokevirtual 64, 3) := by decide +kernel
theorem dL_isStep_621 : decode cL_isStep 621 = .ok (.if_icmp .ne 7, 3) := by decide +kernel
theorem dL_isStep_624 : decode cL_isStep 624 = .ok (.iconst 1, 1) := by decide +kernel
theorem dL_isStep_625 : decode cL_isStep 625 = .ok (.goto 4, 3) := by decide +kernel
theorem dL_isStep_628 : decode cL_isStep 628 = .ok (.iconst 0, 1) := by decide +kernel
theorem dL_isStep_629 : decode cL_isStep 629 = .ok (.ireturn, 1) := by decide +kernel
theorem dL_isStep_630 : decode cL_isStep 630 = .ok (.aload_n 0, 1) := by decide +kernel
theorem dL_isStep_631 : decode cL_isStep 631 = .ok (.aload_n 1, 1) := by decide +kernel
theorem dL_isStep_632 : decode cL_isStep 632 = .ok (.iload_n 3, 1) := by decide +kernel
theorem dL_isStep_633 : decode cL_isStep 633 = .ok (.iload 4, 2) := by decide +kernel
theorem dL_isStep_635 : decode cL_isStep 635 = .ok (.invokestatic 67, 3) := by decide +kernel
theorem dL_isStep_638 : decode cL_isStep 638 = .ok (.ireturn, 1) := by decide +kernel
theorem dL_isStep_639 : decode cL_isStep 639 = .ok (.iconst 1, 1) := by decide +kernel
theorem dL_isStep_640 : decode cL_isStep 640 = .ok (.iload_n 3, 1) := by decide +kernel
theorem dL_isStep_641 : decode cL_isStep 641 = .ok (.iload 4, 2) := by decide +kernel
theorem dL_isStep_643 : decode cL_isStep 643 = .ok (.bipush 8, 2) := by decide +kernel
theorem dL_isStep_645 : decode cL_isStep 645 = .ok (.invokestatic 9, 3) := by decide +kernel
theorem dL_isStep_648 : decode cL_isStep 648 = .ok (.ifCond .ne 8, 3) := by decide +kernel
theorem dL_isStep_651 : decode cL_isStep 651 = .ok (.bipush 99, 2) := by decide +kernel
theorem dL_isStep_653 : decode cL_isStep 653 = .ok (.goto 5, 3) := by decide +kernel
theorem dL_isStep_656 : decode cL_isStep 656 = .ok (.bipush 7, 2) := by decide +kernel
theorem dL_isStep_658 : decode cL_isStep 658 = .ok (.invokestatic 9, 3) := by decide +kernel
theorem dL_isStep_661 : decode cL_isStep 661 = .ok (.iadd, 1) := by decide +kernel
theorem dL_isStep_662 : decode cL_isStep 662 = .ok (.istore 7, 2) := by decide +kernel
theorem dL_isStep_664 : decode cL_isStep 664 = .ok (.aload_n 0, 1) := by decide +kernel
theorem dL_isStep_665 : decode cL_isStep 665 = .ok (.iconst 4, 1) := by decide +kernel
theorem dL_isStep_666 : decode cL_isStep 666 = .ok (.invokevirtual 21, 3) := by decide +kernel
theorem dL_isStep_669 : decode cL_isStep 669 = .ok (.istore 8, 2) := by decide +kernel
theorem dL_isStep_671 : decode cL_isStep 671 = .ok (.aload_n 0, 1) := by decide +kernel
theorem dL_isStep_672 : decode cL_isStep 672 = .ok (.bipush 10, 2) := by decide +kernel
theorem dL_isStep_674 : decode cL_isStep 674 = .ok (.invokevirtual 21, 3) := by decide +kernel
theorem dL_isStep_677 : decode cL_isStep 677 = .ok (.istore 9, 2) := by decide +kernel
theorem dL_isStep_679 : decode cL_isStep 679 = .ok (.iconst 0, 1) := by decide +kernel
theorem dL_isStep_680 : decode cL_isStep 680 = .ok (.istore 10, 2) := by decide +kernel
theorem dL_isStep_682 : decode cL_isStep 682 = .ok (.iconst 0, 1) := by decide +kernel
theorem dL_isStep_683 : decode cL_isStep 683 = .ok (.istore 11, 2) := by decide +kernel
theorem dL_isStep_685 : decode cL_isStep 685 = .ok (.iload 11, 2) := by decide +kernel
theorem dL_isStep_687 : decode cL_isStep 687 = .ok (.iload 7, 2) := by decide +kernel
theorem dL_isStep_689 : decode cL_isStep 689 = .ok (.if_icmp .ge 36, 3) := by decide +kernel
theorem dL_isStep_692 : decode cL_isStep 692 = .ok (.aload_n 1, 1) := by decide +kernel
theorem dL_isStep_693 : decode cL_isStep 693 = .ok (.iconst 1, 1) := by decide +kernel
theorem dL_isStep_694 : decode cL_isStep 694 = .ok (.invokevirtual 71, 3) := by decide +kernel
theorem dL_isStep_697 : decode cL_isStep 697 = .ok (.istore 12, 2) := by decide +kernel
theorem dL_isStep_699 : decode cL_isStep 699 = .ok (.iload 10, 2) := by decide +kernel
theorem dL_isStep_701 : decode cL_isStep 701 = .ok (.iload 12, 2) := by decide +kernel
theorem dL_isStep_703 : decode cL_isStep 703 = .ok (.iadd, 1) := by decide +kernel
theorem dL_isStep_704 : decode cL_isStep 704 = .ok (.istore 10, 2) := by decide +kernel
theorem dL_isStep_706 : decode cL_isStep 706 = .ok (.iload 12, 2) := by decide +kernel
theorem dL_isStep_708 : decode cL_isStep 708 = .ok (.ifCond .lt 9, 3) := by decide +kernel
theorem dL_isStep_711 : decode cL_isStep 711 = .ok (.iload 12, 2) := by decide +kernel
theorem dL_isStep_713 : decode cL_isStep 713 = .ok (.iconst 1, 1) := by decide +kernel
theorem dL_isStep_714 : decode cL_isStep 714 = .ok (.if_icmp .le 5, 3) := by decide +kernel
theorem dL_isStep_717 : decode cL_isStep 717 = .ok (.iconst 0, 1) := by decide +kernel
theorem dL_isStep_718 : decode cL_isStep 718 = .ok (.ireturn, 1) := by decide +kernel
theorem dL_isStep_719 : decode cL_isStep 719 = .ok (.iinc 11 1, 3) := by decide +kernel
theorem dL_isStep_722 : decode cL_isStep 722 = .ok (.goto (-37), 3) := by decide +kernel
theorem dL_isStep_725 : decode cL_isStep 725 = .ok (.aload_n 0, 1) := by decide +kernel
theorem dL_isStep_726 : decode cL_isStep 726 = .ok (.iload 7, 2) := by decide +kernel
theorem dL_isStep_728 : decode cL_isStep 728 = .ok (.invokevirtual 71, 3) := by decide +kernel
theorem dL_isStep_731 : decode cL_isStep 731 = .ok (.iload 10, 2) := by decide +kernel
theorem dL_isStep_733 : decode cL_isStep 733 = .ok (.if_icmp .ne 34, 3) := by decide +kernel
theorem dL_isStep_736 : decode cL_isStep 736 = .ok (.aload_n 0, 1) := by decide +kernel
theorem dL_isStep_737 : decode cL_isStep 737 = .ok (.iconst 4, 1) := by decide +kernel
theorem dL_isStep_738 : decode cL_isStep 738 = .ok (.invokevirtual 21, 3) := by decide +kernel
theorem dL_isStep_741 : decode cL_isStep 741 = .ok (.iload 8, 2) := by decide +kernel
theorem dL_isStep_743 : decode cL_isStep 743 = .ok (.iload 7, 2) := by decide +kernel
theorem dL_isStep_745 : decode cL_isStep 745 = .ok (.iadd, 1) := by decide +kernel
theorem dL_isStep_746 : decode cL_isStep 746 = .ok (.if_icmp .ne 21, 3) := by decide +kernel
theorem dL_isStep_749 : decode cL_isStep 749 = .ok (.aload_n 0, 1) := by decide +kernel
theorem dL_isStep_750 : decode cL_isStep 750 = .ok (.bipush 10, 2) := by decide +kernel
theorem dL_isStep_752 : decode cL_isStep 752 = .ok (.invokevirtual 21, 3) := by decide +kernel
theorem dL_isStep_755 : decode cL_isStep 755 = .ok (.iload 9, 2) := by decide +kernel
theorem dL_isStep_757 : decode cL_isStep 757 = .ok (.iload 10, 2) := by decide +kernel
theorem dL_isStep_759 : decode cL_isStep 759 = .ok (.iadd, 1) := by decide +kernel
theorem dL_isStep_760 : decode cL_isStep 760 = .ok (.if_icmp .ne 7, 3) := by decide +kernel
theorem dL_isStep_763 : decode cL_isStep 763 = .ok (.iconst 1, 1) := by decide +kernel
theorem dL_isStep_764 : decode cL_isStep 764 = .ok (.goto 4, 3) := by decide +kernel
theorem dL_isStep_767 : decode cL_isStep 767 = .ok (.iconst 0, 1) := by decide +kernel
theorem dL_isStep_768 : decode cL_isStep 768 = .ok (.ireturn, 1) := by decide +kernel
theorem dL_isStep_769 : decode cL_isStep 769 = .ok (.aload_n 0, 1) := by decide +kernel
theorem dL_isStep_770 : decode cL_isStep 770 = .ok (.iload 5, 2) := by decide +kernel
theorem dL_isStep_772 : decode cL_isStep 772 = .ok (.iload 6, 2) := by decide +kernel
theorem dL_isStep_774 : decode cL_isStep 774 = .ok (.invokevirtual 74, 3) := by decide +kernel
theorem dL_isStep_777 : decode cL_isStep 777 = .ok (.istore 7, 2) := by decide +kernel
theorem dL_isStep_779 : decode cL_isStep 779 = .ok (.aload_n 0, 1) := by decide +kernel
theorem dL_isStep_780 : decode cL_isStep 780 = .ok (.iload 6, 2) := by decide +kernel
theorem dL_isStep_782 : decode cL_isStep 782 = .ok (.iconst 1, 1) := by decide +kernel
theorem dL_isStep_783 : decode cL_isStep 783 = .ok (.invokevirtual 52, 3) := by decide +kernel
theorem dL_isStep_786 : decode cL_isStep 786 = .ok (.istore 8, 2) := by decide +kernel
theorem dL_isStep_788 : decode cL_isStep 788 = .ok (.aload_n 0, 1) := by decide +kernel
theorem dL_isStep_789 : decode cL_isStep 789 = .ok (.bipush 8, 2) := by decide +kernel
theorem dL_isStep_791 : decode cL_isStep 791 = .ok (.invokevirtual 21, 3) := by decide +kernel
theorem dL_isStep_794 : decode cL_isStep 794 = .ok (.istore 9, 2) := by decide +kernel
theorem dL_isStep_796 : decode cL_isStep 796 = .ok (.aload_n 0, 1) := by decide +kernel
theorem dL_isStep_797 : decode cL_isStep 797 = .ok (.iload 5, 2) := by decide +kernel
theorem dL_isStep_799 : decode cL_isStep 799 = .ok (.iload 6, 2) := by decide +kernel
theorem dL_isStep_801 : decode cL_isStep 801 = .ok (.invokevirtual 77, 3) := by decide +kernel
theorem dL_isStep_804 : decode cL_isStep 804 = .ok (.istore 10, 2) := by decide +kernel
theorem dL_isStep_806 : decode cL_isStep 806 = .ok (.iload 6, 2) := by decide +kernel
theorem dL_isStep_808 : decode cL_isStep 808 = .ok (.ifCond .ne 7, 3) := by decide +kernel
theorem dL_isStep_811 : decode cL_isStep 811 = .ok (.iconst 0, 1) := by decide +kernel
theorem dL_isStep_812 : decode cL_isStep 812 = .ok (.goto 4, 3) := by decide +kernel
theorem dL_isStep_815 : decode cL_isStep 815 = .ok (.iconst 1, 1) := by decide +kernel
theorem dL_isStep_816 : decode cL_isStep 816 = .ok (.iload 6, 2) := by decide +kernel
theorem dL_isStep_818 : decode cL_isStep 818 = .ok (.bipush 11, 2) := by decide +kernel
theorem dL_isStep_820 : decode cL_isStep 820 = .ok (.if_icmp .ne 7, 3) := by decide +kernel
theorem dL_isStep_823 : decode cL_isStep 823 = .ok (.iconst 0, 1) := by decide +kernel
theorem dL_isStep_824 : decode cL_isStep 824 = .ok (.goto 4, 3) := by decide +kernel
theorem dL_isStep_827 : decode cL_isStep 827 = .ok (.iconst 1, 1) := by decide +kernel
theorem dL_isStep_828 : decode cL_isStep 828 = .ok (.iadd, 1) := by decide +kernel
theorem dL_isStep_829 : decode cL_isStep 829 = .ok (.istore 11, 2) := by decide +kernel
theorem dL_isStep_831 : decode cL_isStep 831 = .ok (.iload 10, 2) := by decide +kernel
theorem dL_isStep_833 : decode cL_isStep 833 = .ok (.aload_n 1, 1) := by decide +kernel
theorem dL_isStep_834 : decode cL_isStep 834 = .ok (.iload 5, 2) := by decide +kernel
theorem dL_isStep_836 : decode cL_isStep 836 = .ok (.iload 6, 2) := by decide +kernel
theorem dL_isStep_838 : decode cL_isStep 838 = .ok (.invokevirtual 77, 3) := by decide +kernel
theorem dL_isStep_841 : decode cL_isStep 841 = .ok (.if_icmp .ne 88, 3) := by decide +kernel
theorem dL_isStep_844 : decode cL_isStep 844 = .ok (.iload 10, 2) := by decide +kernel
theorem dL_isStep_846 : decode cL_isStep 846 = .ok (.iload 7, 2) := by decide +kernel
theorem dL_isStep_848 : decode cL_isStep 848 = .ok (.ifCond .ge 7, 3) := by decide +kernel
theorem dL_isStep_851 : decode cL_isStep 851 = .ok (.iconst (-1), 1) := by decide +kernel
theorem dL_isStep_852 : decode cL_isStep 852 = .ok (.goto 17, 3) := by decide +kernel
theorem dL_isStep_855 : decode cL_isStep 855 = .ok (.iload 7, 2) := by decide +kernel
theorem dL_isStep_857 : decode cL_isStep 857 = .ok (.ifCond .le 8, 3) := by decide +kernel
theorem dL_isStep_860 : decode cL_isStep 860 = .ok (.bipush (-5), 2) := by decide +kernel
theorem dL_isStep_862 : decode cL_isStep 862 = .ok (.goto 7, 3) := by decide +kernel
theorem dL_isStep_865 : decode cL_isStep 865 = .ok (.iload 8, 2) := by decide +kernel
theorem dL_isStep_867 : decode cL_isStep 867 = .ok (.iconst 2, 1) := by decide +kernel
theorem dL_isStep_868 : decode cL_isStep 868 = .ok (.iadd, 1) := by decide +kernel
theorem dL_isStep_869 : decode cL_isStep 869 = .ok (.if_icmp .ne 60, 3) := by decide +kernel
theorem dL_isStep_872 : decode cL_isStep 872 = .ok (.aload_n 0, 1) := by decide +kernel
theorem dL_isStep_873 : decode cL_isStep 873 = .ok (.bipush 8, 2) := by decide +kernel
theorem dL_isStep_875 : decode cL_isStep 875 = .ok (.invokevirtual 21, 3) := by decide +kernel
theorem dL_isStep_878 : decode cL_isStep 878 = .ok (.iload 9, 2) := by decide +kernel
theorem dL_isStep_880 : decode cL_isStep 880 = .ok (.iload 7, 2) := by decide +kernel
theorem dL_isStep_882 : decode cL_isStep 882 = .ok (.ifCond .ne 10, 3) := by decide +kernel
theorem dL_isStep_885 : decode cL_isStep 885 = .ok (.iconst 2, 1) := by decide +kernel
theorem dL_isStep_886 : decode cL_isStep 886 = .ok (.iload 11, 2) := by decide +kernel
theorem dL_isStep_888 : decode cL_isStep 888 = .ok (.iadd, 1) := by decide +kernel
theorem dL_isStep_889 : decode cL_isStep 889 = .ok (.goto 4, 3) := by decide +kernel
theorem dL_isStep_892 : decode cL_isStep 892 = .ok (.iconst 0, 1) := by decide +kernel
theorem dL_isStep_893 : decode cL_isStep 893 = .ok (.iadd, 1) := by decide +kernel
theorem dL_isStep_894 : decode cL_isStep 894 = .ok (.if_icmp .ne 35, 3) := by decide +kernel
theorem dL_isStep_897 : decode cL_isStep 897 = .ok (.iload 7, 2) := by decide +kernel
theorem dL_isStep_899 : decode cL_isStep 899 = .ok (.ifCond .ne 26, 3) := by decide +kernel
theorem dL_isStep_902 : decode cL_isStep 902 = .ok (.aload_n 0, 1) := by decide +kernel
theorem dL_isStep_903 : decode cL_isStep 903 = .ok (.iload 6, 2) := by decide +kernel
theorem dL_isStep_905 : decode cL_isStep 905 = .ok (.iconst 0, 1) := by decide +kernel
theorem dL_isStep_906 : decode cL_isStep 906 = .ok (.invokevirtual 52, 3) := by decide +kernel
theorem dL_isStep_909 : decode cL_isStep 909 = .ok (.iload 5, 2) := by decide +kernel
theorem dL_isStep_911 : decode cL_isStep 911 = .ok (.if_icmp .ne 18, 3) := by decide +kernel
theorem dL_isStep_914 : decode cL_isStep 914 = .ok (.aload_n 0, 1) := by decide +kernel
theorem dL_isStep_915 : decode cL_isStep 915 = .ok (.iload 5, 2) := by decide +kernel
theorem dL_isStep_917 : decode cL_isStep 917 = .ok (.iconst 1, 1) := by decide +kernel
theorem dL_isStep_918 : decode cL_isStep 918 = .ok (.invokevirtual 40, 3) := by decide +kernel
theorem dL_isStep_921 : decode cL_isStep 921 = .ok (.iconst 1, 1) := by decide +kernel
theorem dL_isStep_922 : decode cL_isStep 922 = .ok (.if_icmp .ne 7, 3) := by decide +kernel
theorem dL_isStep_925 : decode cL_isStep 925 = .ok (.iconst 1, 1) := by decide +kernel
theorem dL_isStep_926 : decode cL_isStep 926 = .ok (.goto 4, 3) := by decide +kernel
theorem dL_isStep_929 : decode cL_isStep 929 = .ok (.iconst 0, 1) := by decide +kernel
theorem dL_isStep_930 : decode cL_isStep 930 = .ok (.ireturn, 1) := by decide +kernel
set_option maxRecDepth 20000 in
theorem ggL_areAlike_L_up : GoodIn wsL_areAlike wsL_up := goodIn_r _ [4, 5] (by decide +kernel) (by decide +kernel)
set_option maxRecDepth 20000 in
theorem gL_areAlike_L_up : GoodIn wsL_areAlike (va_wsS RL 9 yL_up wsL_up) := goodIn_app (goodIn_of _ (by decide +kernel)) ggL_areAlike_L_up
set_option maxRecDepth 20000 in
theorem ggL_areAlike_X1_untilPosted : GoodIn wsL_areAlike wsX1_untilPosted := goodIn_r _ [10, 11, 12, 13, 14, 15, 9, 16, 17, 18, 19, 20, 21, 22, 23, 24, 25, 26, 27, 28, 29, 30, 31, 32, 33, 34, 35, 36, 37, 38, 39, 40, 41, 42, 43, 44, 45, 46, 47, 48, 49, 50, 51, 52, 53, 54, 55, 56, 57, 58, 59, 60, 61, 62, 63, 64, 65, 66, 67, 68, 69, 70, 71, 72, 73, 74, 75, 76, 77, 78, 79, 80, 81, 82, 83, 84, 85, 86, 87, 88, 89, 90, 91, 92, 93, 94, 95, 96, 97, 98, 99, 100, 101, 102, 103, 104, 105, 106, 107, 108, 109, 110, 111, 112, 113, 114, 115, 116, 117, 118, 186, 187, 188, 189, 190, 191, 192, 193, 194, 195, 196, 197, 198, 199, 200, 201, 202, 203, 204, 205, 206, 207, 208, 209] (by decide +kernel) (by decide +kernel)
set_option maxRecDepth 20000 in
theorem gL_areAlike_X1_untilPosted : GoodIn wsL_areAlike (wsV RL 80 RX1 yX1_untilPosted wsX1_untilPosted) := goodIn_app (goodIn_of _ (by decide +kernel)) ggL_areAlike_X1_untilPosted
set_option maxRecDepth 20000 in
theorem ggL_areAlike_X1_count : GoodIn wsL_areAlike wsX1_count := goodIn_r _ [122, 11, 20, 21, 22, 12, 38, 36, 123, 124, 125, 126, 127, 49, 128, 56, 58, 59, 60, 61, 62, 63, 64, 65, 66, 67, 68, 69, 70, 71, 129, 130, 131, 132, 14, 15, 9, 16, 133, 134, 135, 136, 137, 138, 139, 140, 141, 142, 80, 81, 82, 83, 84, 85, 86, 87, 88, 186, 187, 188, 189, 190, 191, 192, 193, 194, 195, 196, 197, 198, 199, 200, 201, 202, 203, 204, 205, 206, 207, 208, 209] (by decide +kernel) (by decide +kernel)
set_option maxRecDepth 20000 in
theorem gL_areAlike_X1_count : GoodIn wsL_areAlike (wsV RL 21 RX1 yX1_count wsX1_count) := goodIn_app (goodIn_of _ (by decide +kernel)) ggL_areAlike_X1_count
set_option maxRecDepth 20000 in
theorem ggL_areAlike_X1_ifPassed : GoodIn wsL_areAlike wsX1_ifPassed := goodIn_r _ [146, 11, 13, 38, 12, 17, 18, 9, 19, 20, 21, 22, 23, 24, 25, 26, 27, 28, 29, 30, 31, 32, 33, 34, 35, 36, 37, 39, 40, 41, 42, 43, 44, 45, 46, 47, 48, 49, 50, 51, 52, 53, 54, 55, 56, 57, 58, 59, 60, 61, 62, 63, 64, 65, 66, 67, 68, 69, 70, 71, 72, 73, 74, 75, 76, 77, 78, 79, 80, 81, 82, 83, 84, 85, 86, 87, 88, 89, 90, 91, 92, 93, 94, 95, 96, 97, 98, 99, 100, 101, 102, 103, 104, 105, 106, 107, 108, 109, 110, 111, 112, 113, 114, 115, 116, 117, 118, 14, 15, 16, 186, 187, 188, 189, 190, 191, 192, 193, 194, 195, 196, 197, 198, 199, 200, 201, 202, 203, 204, 205, 206, 207, 208, 209] (by decide +kernel) (by decide +kernel)
set_option maxRecDepth 20000 in
theorem gL_areAlike_X1_ifPassed : GoodIn wsL_areAlike (wsV RL 83 RX1 yX1_ifPassed wsX1_ifPassed) := goodIn_app (goodIn_of _ (by decide +kernel)) ggL_areAlike_X1_ifPassed
set_option maxRecDepth 20000 in
theorem ggL_areAlike_X1_name : GoodIn wsL_areAlike wsX1_name := goodIn_r _ [150, 11, 34, 33, 32, 36, 151, 86, 87, 49, 88, 56, 152, 63, 64, 65, 66, 67, 68, 69, 70, 71, 153, 154, 155, 156, 157, 158, 159, 160, 57, 58, 59, 60, 61, 62, 186, 187, 188, 189, 190, 191, 192, 193, 194, 195, 196, 197, 198, 199, 200, 201, 202, 203, 204, 205, 206, 207, 208, 209] (by decide +kernel) (by decide +kernel)
set_option maxRecDepth 20000 in
theorem gL_areAlike_X1_name : GoodIn wsL_areAlike (wsV RL 40 RX1 yX1_name wsX1_name) := goodIn_app (goodIn_of _ (by decide +kernel)) ggL_areAlike_X1_name
set_option maxRecDepth 20000 in
theorem ggL_areAlike_X1_bestCorner : GoodIn wsL_areAlike wsX1_bestCorner := goodIn_r _ [164, 11, 151, 86, 87, 49, 88, 56, 165, 73, 74, 75, 67, 68, 69, 70, 71, 76, 77, 78, 79, 80, 81, 82, 83, 84, 85, 89, 90, 91, 92, 93, 94, 95, 26, 96, 97, 25, 27, 98, 99, 100, 101, 66, 57, 51, 102, 186, 187, 188, 189, 190, 191, 192, 193, 194, 195, 196, 197, 198, 199, 200, 201, 202, 203, 204, 205, 206, 207, 208, 209] (by decide +kernel) (by decide +kernel)
set_option maxRecDepth 20000 in
theorem gL_areAlike_X1_bestCorner : GoodIn wsL_areAlike (wsV RL 86 RX1 yX1_bestCorner wsX1_bestCorner) := goodIn_app (goodIn_of _ (by decide +kernel)) ggL_areAlike_X1_bestCorner
set_option maxRecDepth 20000 in
theorem ggL_areAlike_X1_why : GoodIn wsL_areAlike wsX1_why := goodIn_r _ [169, 11, 151, 86, 87, 49, 88, 56, 170, 171, 9, 172, 173, 174, 175, 176, 67, 68, 69, 70, 71, 76, 77, 78, 79, 80, 81, 82, 83, 84, 85, 89, 90, 91, 92, 93, 94, 95, 26, 96, 97, 25, 27, 98, 99, 100, 101, 66, 57, 51, 102, 186, 187, 188, 189, 190, 191, 192, 193, 194, 195, 196, 197, 198, 199, 200, 201, 202, 203, 204, 205, 206, 207, 208, 209] (by decide +kernel) (by decide +kernel)
set_option maxRecDepth 20000 in
theorem gL_areAlike_X1_why : GoodIn wsL_areAlike (wsV RL 74 RX1 yX1_why wsX1_why) := goodIn_app (goodIn_of _ (by decide +kernel)) ggL_areAlike_X1_why
set_option maxRecDepth 20000 in
theorem ggL_areAlike_X1_corner : GoodIn wsL_areAlike wsX1_corner := goodIn_r _ [180, 11, 37, 12, 38, 39, 40, 42, 170, 171, 9, 172, 186, 187, 188, 189, 190, 191, 192, 193, 194, 195, 196, 197, 198, 199, 200, 201, 202, 203, 204, 205, 206, 207, 208, 209] (by decide +kernel) (by decide +kernel)
set_option maxRecDepth 20000 in
theorem gL_areAlike_X1_corner : GoodIn wsL_areAlike (wsV RL 52 RX1 yX1_corner wsX1_corner) := goodIn_app (goodIn_of _ (by decide +kernel)) ggL_areAlike_X1_corner
set_option maxRecDepth 20000 in
theorem ggL_areAlike_X1_untilBorne : GoodIn wsL_areAlike wsX1_untilBorne := goodIn_r _ [184, 11, 13, 151, 86, 87, 49, 88, 56, 185, 68, 69, 70, 71, 17, 18, 9, 19, 20, 21, 22, 23, 24, 25, 26, 27, 28, 29, 30, 31, 32, 33, 34, 35, 36, 37, 12, 38, 39, 40, 41, 42, 43, 44, 45, 46, 47, 48, 50, 51, 52, 53, 54, 55, 57, 58, 59, 60, 61, 62, 63, 64, 65, 66, 67, 72, 73, 74, 75, 76, 77, 78, 79, 80, 81, 82, 83, 84, 85, 89, 90, 91, 92, 93, 94, 95, 96, 97, 98, 99, 100, 101, 102, 103, 104, 105, 106, 107, 108, 109, 110, 111, 112, 113, 114, 115, 116, 117, 118, 186, 187, 188, 189, 190, 191, 192, 193, 194, 195, 196, 197, 198, 199, 200, 201, 202, 203, 204, 205, 206, 207, 208, 209] (by decide +kernel) (by decide +kernel)
set_option maxRecDepth 20000 in
theorem gL_areAlike_X1_untilBorne : GoodIn wsL_areAlike (wsV RL 89 RX1 yX1_untilBorne wsX1_untilBorne) := goodIn_app (goodIn_of _ (by decide +kernel)) ggL_areAlike_X1_untilBorne
theorem dL_areAlike_0 : decode cL_areAlike 0 = .ok (.iconst 1, 1) := by decide +kernel
theorem dL_areAlike_1 : decode cL_areAlike 1 = .ok (.iload_n 2, 1) := by decide +kernel
theorem dL_areAlike_2 : decode cL_areAlike 2 = .ok (.sipush 300, 3) := by decide +kernel
theorem dL_areAlike_5 : decode cL_areAlike 5 = .ok (.invokestatic 9, 3) := by decide +kernel
theorem dL_areAlike_8 : decode cL_areAlike 8 = .ok (.iadd, 1) := by decide +kernel
theorem dL_areAlike_9 : decode cL_areAlike 9 = .ok (.istore_n 3, 1) := by decide +kernel
theorem dL_areAlike_10 : decode cL_areAlike 10 = .ok (.aload_n 0, 1) := by decide +kernel
theorem dL_areAlike_11 : decode cL_areAlike 11 = .ok (.invokevirtual 80, 3) := by decide +kernel
theorem dL_areAlike_14 : decode cL_areAlike 14 = .ok (.aload_n 1, 1) := by decide +kernel
theorem dL_areAlike_15 : decode cL_areAlike 15 = .ok (.invokevirtual 80, 3) := by decide +kernel
theorem dL_areAlike_18 : decode cL_areAlike 18 = .ok (.if_icmp .ne 7, 3) := by decide +kernel
theorem dL_areAlike_21 : decode cL_areAlike 21 = .ok (.iconst 1, 1) := by decide +kernel
theorem dL_areAlike_22 : decode cL_areAlike 22 = .ok (.goto 4, 3) := by decide +kernel
theorem dL_areAlike_25 : decode cL_areAlike 25 = .ok (.iconst 0, 1) := by decide +kernel
theorem dL_areAlike_26 : decode cL_areAlike 26 = .ok (.istore 4, 2) := by decide +kernel
theorem dL_areAlike_28 : decode cL_areAlike 28 = .ok (.iconst 0, 1) := by decide +kernel
theorem dL_areAlike_29 : decode cL_areAlike 29 = .ok (.istore 5, 2) := by decide +kernel
theorem dL_areAlike_31 : decode cL_areAlike 31 = .ok (.iload 5, 2) := by decide +kernel
theorem dL_areAlike_33 : decode cL_areAlike 33 = .ok (.bipush 13, 2) := by decide +kernel
theorem dL_areAlike_35 : decode cL_areAlike 35 = .ok (.if_icmp .ge 59, 3) := by decide +kernel
theorem dL_areAlike_38 : decode cL_areAlike 38 = .ok (.iload 4, 2) := by decide +kernel
theorem dL_areAlike_40 : decode cL_areAlike 40 = .ok (.ifCond .eq 45, 3) := by decide +kernel
theorem dL_areAlike_43 : decode cL_areAlike 43 = .ok (.aload_n 0, 1) := by decide +kernel
theorem dL_areAlike_44 : decode cL_areAlike 44 = .ok (.iload 5, 2) := by decide +kernel
theorem dL_areAlike_46 : decode cL_areAlike 46 = .ok (.invokevirtual 21, 3) := by decide +kernel
theorem dL_areAlike_49 : decode cL_areAlike 49 = .ok (.aload_n 1, 1) := by decide +kernel
theorem dL_areAlike_50 : decode cL_areAlike 50 = .ok (.iload 5, 2) := by decide +kernel
theorem dL_areAlike_52 : decode cL_areAlike 52 = .ok (.invokevirtual 21, 3) := by decide +kernel
theorem dL_areAlike_55 : decode cL_areAlike 55 = .ok (.if_icmp .ne 30, 3) := by decide +kernel
theorem dL_areAlike_58 : decode cL_areAlike 58 = .ok (.iload 5, 2) := by decide +kernel
theorem dL_areAlike_60 : decode cL_areAlike 60 = .ok (.iconst 2, 1) := by decide +kernel
theorem dL_areAlike_61 : decode cL_areAlike 61 = .ok (.if_icmp .gt 20, 3) := by decide +kernel
theorem dL_areAlike_64 : decode cL_areAlike 64 = .ok (.aload_n 0, 1) := by decide +kernel
theorem dL_areAlike_65 : decode cL_areAlike 65 = .ok (.iload_n 3, 1) := by decide +kernel
theorem dL_areAlike_66 : decode cL_areAlike 66 = .ok (.iload 5, 2) := by decide +kernel
theorem dL_areAlike_68 : decode cL_areAlike 68 = .ok (.invokevirtual 83, 3) := by decide +kernel
theorem dL_areAlike_71 : decode cL_areAlike 71 = .ok (.aload_n 1, 1) := by decide +kernel
theorem dL_areAlike_72 : decode cL_areAlike 72 = .ok (.iload_n 3, 1) := by decide +kernel
theorem dL_areAlike_73 : decode cL_areAlike 73 = .ok (.iload 5, 2) := by decide +kernel
theorem dL_areAlike_75 : decode cL_areAlike 75 = .ok (.invokevirtual 83, 3) := by decide +kernel
theorem dL_areAlike_78 : decode cL_areAlike 78 = .ok (.if_icmp .ne 7, 3) := by decide +kernel
theorem dL_areAlike_81 : decode cL_areAlike 81 = .ok (.iconst 1, 1) := by decide +kernel
theorem dL_areAlike_82 : decode cL_areAlike 82 = .ok (.goto 4, 3) := by decide +kernel
theorem dL_areAlike_85 : decode cL_areAlike 85 = .ok (.iconst 0, 1) := by decide +kernel
theorem dL_areAlike_86 : decode cL_areAlike 86 = .ok (.istore 4, 2) := by decide +kernel
theorem dL_areAlike_88 : decode cL_areAlike 88 = .ok (.iinc 5 1, 3) := by decide +kernel
theorem dL_areAlike_91 : decode cL_areAlike 91 = .ok (.goto (-60), 3) := by decide +kernel
theorem dL_areAlike_94 : decode cL_areAlike 94 = .ok (.iconst 0, 1) := by decide +kernel
theorem dL_areAlike_95 : decode cL_areAlike 95 = .ok (.istore 5, 2) := by decide +kernel
theorem dL_areAlike_97 : decode cL_areAlike 97 = .ok (.iload 5, 2) := by decide +kernel
theorem dL_areAlike_99 : decode cL_areAlike 99 = .ok (.aload_n 0, 1) := by decide +kernel
theorem dL_areAlike_100 : decode cL_areAlike 100 = .ok (.iconst 5, 1) := by decide +kernel
theorem dL_areAlike_101 : decode cL_areAlike 101 = .ok (.invokevirtual 21, 3) := by decide +kernel
theorem dL_areAlike_104 : decode cL_areAlike 104 = .ok (.if_icmp .ge 116, 3) := by decide +kernel
theorem dL_areAlike_107 : decode cL_areAlike 107 = .ok (.iconst 0, 1) := by decide +kernel
theorem dL_areAlike_108 : decode cL_areAlike 108 = .ok (.istore 6, 2) := by decide +kernel
theorem dL_areAlike_110 : decode cL_areAlike 110 = .ok (.iload 6, 2) := by decide +kernel
theorem dL_areAlike_112 : decode cL_areAlike 112 = .ok (.bipush 7, 2) := by decide +kernel
theorem dL_areAlike_114 : decode cL_areAlike 114 = .ok (.if_icmp .ge 40, 3) := by decide +kernel
theorem dL_areAlike_117 : decode cL_areAlike 117 = .ok (.iload 4, 2) := by decide +kernel
theorem dL_areAlike_119 : decode cL_areAlike 119 = .ok (.ifCond .eq 26, 3) := by decide +kernel
theorem dL_areAlike_122 : decode cL_areAlike 122 = .ok (.aload_n 0, 1) := by decide +kernel
theorem dL_areAlike_123 : decode cL_areAlike 123 = .ok (.iload 5, 2) := by decide +kernel
theorem dL_areAlike_125 : decode cL_areAlike 125 = .ok (.iload 6, 2) := by decide +kernel
theorem dL_areAlike_127 : decode cL_areAlike 127 = .ok (.invokevirtual 40, 3) := by decide +kernel
theorem dL_areAlike_130 : decode cL_areAlike 130 = .ok (.aload_n 1, 1) := by decide +kernel
theorem dL_areAlike_131 : decode cL_areAlike 131 = .ok (.iload 5, 2) := by decide +kernel
theorem dL_areAlike_133 : decode cL_areAlike 133 = .ok (.iload 6, 2) := by decide +kernel
theorem dL_areAlike_135 : decode cL_areAlike 135 = .ok (.invokevirtual 40, 3) := by decide +kernel
theorem dL_areAlike_138 : decode cL_areAlike 138 = .ok (.if_icmp .ne 7, 3) := by decide +kernel
theorem dL_areAlike_141 : decode cL_areAlike 141 = .ok (.iconst 1, 1) := by decide +kernel
theorem dL_areAlike_142 : decode cL_areAlike 142 = .ok (.goto 4, 3) := by decide +kernel
theorem dL_areAlike_145 : decode cL_areAlike 145 = .ok (.iconst 0, 1) := by decide +kernel
theorem dL_areAlike_146 : decode cL_areAlike 146 = .ok (.istore 4, 2) := by decide +kernel
theorem dL_areAlike_148 : decode cL_areAlike 148 = .ok (.iinc 6 1, 3) := by decide +kernel
theorem dL_areAlike_151 : decode cL_areAlike 151 = .ok (.goto (-41), 3) := by decide +kernel
theorem dL_areAlike_154 : decode cL_areAlike 154 = .ok (.iload 4, 2) := by decide +kernel
theorem dL_areAlike_156 : decode cL_areAlike 156 = .ok (.ifCond .eq 55, 3) := by decide +kernel
theorem dL_areAlike_159 : decode cL_areAlike 159 = .ok (.aload_n 0, 1) := by decide +kernel
theorem dL_areAlike_160 : decode cL_areAlike 160 = .ok (.iload 5, 2) := by decide +kernel
theorem dL_areAlike_162 : decode cL_areAlike 162 = .ok (.invokevirtual 86, 3) := by decide +kernel
theorem dL_areAlike_165 : decode cL_areAlike 165 = .ok (.aload_n 1, 1) := by decide +kernel
theorem dL_areAlike_166 : decode cL_areAlike 166 = .ok (.iload 5, 2) := by decide +kernel
theorem dL_areAlike_168 : decode cL_areAlike 168 = .ok (.invokevirtual 86, 3) := by decide +kernel
theorem dL_areAlike_171 : decode cL_areAlike 171 = .ok (.if_icmp .ne 40, 3) := by decide +kernel
theorem dL_areAlike_174 : decode cL_areAlike 174 = .ok (.aload_n 0, 1) := by decide +kernel
theorem dL_areAlike_175 : decode cL_areAlike 175 = .ok (.iload 5, 2) := by decide +kernel
theorem dL_areAlike_177 : decode cL_areAlike 177 = .ok (.iload_n 2, 1) := by decide +kernel
theorem dL_areAlike_178 : decode cL_areAlike 178 = .ok (.iload 5, 2) := by decide +kernel
theorem dL_areAlike_180 : decode cL_areAlike 180 = .ok (.ishr, 1) := by decide +kernel
theorem dL_areAlike_181 : decode cL_areAlike 181 = .ok (.bipush 12, 2) := by decide +kernel
theorem dL_areAlike_183 : decode cL_areAlike 183 = .ok (.invokestatic 9, 3) := by decide +kernel
theorem dL_areAlike_186 : decode cL_areAlike 186 = .ok (.invokevirtual 74, 3) := by decide +kernel
theorem dL_areAlike_189 : decode cL_areAlike 189 = .ok (.aload_n 1, 1) := by decide +kernel
theorem dL_areAlike_190 : decode cL_areAlike 190 = .ok (.iload 5, 2) := by decide +kernel
theorem dL_areAlike_192 : decode cL_areAlike 192 = .ok (.iload_n 2, 1) := by decide +kernel
theorem dL_areAlike_193 : decode cL_areAlike 193 = .ok (.iload 5, 2) := by decide +kernel
theorem dL_areAlike_195 : decode cL_areAlike 195 = .ok (.ishr, 1) := by decide +kernel
theorem dL_areAlike_196 : decode cL_areAlike 196 = .ok (.bipush 12, 2) := by decide +kernel
theorem dL_areAlike_198 : decode cL_areAlike 198 = .ok (.invokestatic 9, 3) := by decide +kernel
theorem dL_areAlike_201 : decode cL_areAlike 201 = .ok (.invokevirtual 74, 3) := by decide +kernel
theorem dL_areAlike_204 : decode cL_areAlike 204 = .ok (.if_icmp .ne 7, 3) := by decide +kernel
theorem dL_areAlike_207 : decode cL_areAlike 207 = .ok (.iconst 1, 1) := by decide +kernel
theorem dL_areAlike_208 : decode cL_areAlike 208 = .ok (.goto 4, 3) := by decide +kernel
theorem dL_areAlike_211 : decode cL_areAlike 211 = .ok (.iconst 0, 1) := by decide +kernel
theorem dL_areAlike_212 : decode cL_areAlike 212 = .ok (.istore 4, 2) := by decide +kernel
theorem dL_areAlike_214 : decode cL_areAlike 214 = .ok (.iinc 5 1, 3) := by decide +kernel
theorem dL_areAlike_217 : decode cL_areAlike 217 = .ok (.goto (-120), 3) := by decide +kernel
theorem dL_areAlike_220 : decode cL_areAlike 220 = .ok (.iconst 0, 1) := by decide +kernel
theorem dL_areAlike_221 : decode cL_areAlike 221 = .ok (.istore 5, 2) := by decide +kernel
theorem dL_areAlike_223 : decode cL_areAlike 223 = .ok (.iload 5, 2) := by decide +kernel
theorem dL_areAlike_225 : decode cL_areAlike 225 = .ok (.bipush 72, 2) := by decide +kernel
theorem dL_areAlike_227 : decode cL_areAlike 227 = .ok (.if_icmp .ge 52, 3) := by decide +kernel
theorem dL_areAlike_230 : decode cL_areAlike 230 = .ok (.iload 4, 2) := by decide +kernel
theorem dL_areAlike_232 : decode cL_areAlike 232 = .ok (.ifCond .eq 38, 3) := by decide +kernel
theorem dL_areAlike_235 : decode cL_areAlike 235 = .ok (.aload_n 0, 1) := by decide +kernel
theorem dL_areAlike_236 : decode cL_areAlike 236 = .ok (.iload 5, 2) := by decide +kernel
theorem dL_areAlike_238 : decode cL_areAlike 238 = .ok (.bipush 6, 2) := by decide +kernel
theorem dL_areAlike_240 : decode cL_areAlike 240 = .ok (.idiv, 1) := by decide +kernel
theorem dL_areAlike_241 : decode cL_areAlike 241 = .ok (.iload 5, 2) := by decide +kernel
theorem dL_areAlike_243 : decode cL_areAlike 243 = .ok (.bipush 6, 2) := by decide +kernel
theorem dL_areAlike_245 : decode cL_areAlike 245 = .ok (.irem, 1) := by decide +kernel
theorem dL_areAlike_246 : decode cL_areAlike 246 = .ok (.invokevirtual 52, 3) := by decide +kernel
theorem dL_areAlike_249 : decode cL_areAlike 249 = .ok (.aload_n 1, 1) := by decide +kernel
theorem dL_areAlike_250 : decode cL_areAlike 250 = .ok (.iload 5, 2) := by decide +kernel
theorem dL_areAlike_252 : decode cL_areAlike 252 = .ok (.bipush 6, 2) := by decide +kernel
theorem dL_areAlike_254 : decode cL_areAlike 254 = .ok (.idiv, 1) := by decide +kernel
theorem dL_areAlike_255 : decode cL_areAlike 255 = .ok (.iload 5, 2) := by decide +kernel
theorem dL_areAlike_257 : decode cL_areAlike 257 = .ok (.bipush 6, 2) := by decide +kernel
theorem dL_areAlike_259 : decode cL_areAlike 259 = .ok (.irem, 1) := by decide +kernel
theorem dL_areAlike_260 : decode cL_areAlike 260 = .ok (.invokevirtual 52, 3) := by decide +kernel
theorem dL_areAlike_263 : decode cL_areAlike 263 = .ok (.if_icmp .ne 7, 3) := by decide +kernel
theorem dL_areAlike_266 : decode cL_areAlike 266 = .ok (.iconst 1, 1) := by decide +kernel
theorem dL_areAlike_267 : decode cL_areAlike 267 = .ok (.goto 4, 3) := by decide +kernel
theorem dL_areAlike_270 : decode cL_areAlike 270 = .ok (.iconst 0, 1) := by decide +kernel
theorem dL_areAlike_271 : decode cL_areAlike 271 = .ok (.istore 4, 2) := by decide +kernel
theorem dL_areAlike_273 : decode cL_areAlike 273 = .ok (.iinc 5 1, 3) := by decide +kernel
theorem dL_areAlike_276 : decode cL_areAlike 276 = .ok (.goto (-53), 3) := by decide +kernel
theorem dL_areAlike_279 : decode cL_areAlike 279 = .ok (.iload_n 2, 1) := by decide +kernel
theorem dL_areAlike_280 : decode cL_areAlike 280 = .ok (.iconst 5, 1) := by decide +kernel
theorem dL_areAlike_281 : decode cL_areAlike 281 = .ok (.ishr, 1) := by decide +kernel
theorem dL_areAlike_282 : decode cL_areAlike 282 = .ok (.aload_n 0, 1) := by decide +kernel
theorem dL_areAlike_283 : decode cL_areAlike 283 = .ok (.iconst 5, 1) := by decide +kernel
theorem dL_areAlike_284 : decode cL_areAlike 284 = .ok (.invokevirtual 21, 3) := by decide +kernel
theorem dL_areAlike_287 : decode cL_areAlike 287 = .ok (.iconst 1, 1) := by decide +kernel
theorem dL_areAlike_288 : decode cL_areAlike 288 = .ok (.iadd, 1) := by decide +kernel
theorem dL_areAlike_289 : decode cL_areAlike 289 = .ok (.invokestatic 9, 3) := by decide +kernel
theorem dL_areAlike_292 : decode cL_areAlike 292 = .ok (.istore 5, 2) := by decide +kernel
theorem dL_areAlike_294 : decode cL_areAlike 294 = .ok (.iload 4, 2) := by decide +kernel
theorem dL_areAlike_296 : decode cL_areAlike 296 = .ok (.ifCond .eq 22, 3) := by decide +kernel
theorem dL_areAlike_299 : decode cL_areAlike 299 = .ok (.aload_n 0, 1) := by decide +kernel
theorem dL_areAlike_300 : decode cL_areAlike 300 = .ok (.iload 5, 2) := by decide +kernel
theorem dL_areAlike_302 : decode cL_areAlike 302 = .ok (.invokevirtual 89, 3) := by decide +kernel
theorem dL_areAlike_305 : decode cL_areAlike 305 = .ok (.aload_n 1, 1) := by decide +kernel
theorem dL_areAlike_306 : decode cL_areAlike 306 = .ok (.iload 5, 2) := by decide +kernel
theorem dL_areAlike_308 : decode cL_areAlike 308 = .ok (.invokevirtual 89, 3) := by decide +kernel
theorem dL_areAlike_311 : decode cL_areAlike 311 = .ok (.if_icmp .ne 7, 3) := by decide +kernel
theorem dL_areAlike_314 : decode cL_areAlike 314 = .ok (.iconst 1, 1) := by decide +kernel
theorem dL_areAlike_315 : decode cL_areAlike 315 = .ok (.goto 4, 3) := by decide +kernel
theorem dL_areAlike_318 : decode cL_areAlike 318 = .ok (.iconst 0, 1) := by decide +kernel
theorem dL_areAlike_319 : decode cL_areAlike 319 = .ok (.ireturn, 1) := by decide +kernel
set_option maxRecDepth 20000 in
theorem ggL_isWell_X1_count : GoodIn wsL_isWell wsX1_count := goodIn_r _ [5, 6, 7, 8, 9, 10, 11, 12, 13, 14, 15, 16, 17, 18, 19, 20, 21, 22, 23, 24, 25, 26, 27, 28, 29, 30, 31, 32, 33, 34, 35, 36, 37, 38, 39, 40, 4, 41, 42, 43, 44, 45, 46, 47, 48, 49, 50, 51, 52, 53, 54, 55, 56, 57, 58, 59, 60, 194, 195, 196, 197, 198, 199, 200, 201, 202, 203, 204, 205, 206, 207, 208, 209, 210, 211, 212, 213, 214, 215, 216, 217] (by decide +kernel) (by decide +kernel)
set_option maxRecDepth 20000 in
theorem gL_isWell_X1_count : GoodIn wsL_isWell (wsV RL 21 RX1 yX1_count wsX1_count) := goodIn_app (goodIn_of _ (by decide +kernel)) ggL_isWell_X1_count
set_option maxRecDepth 20000 in
theorem ggL_isWell_X1_corner : GoodIn wsL_isWell wsX1_corner := goodIn_r _ [64, 6, 65, 10, 11, 66, 67, 68, 69, 70, 4, 71, 194, 195, 196, 197, 198, 199, 200, 201, 202, 203, 204, 205, 206, 207, 208, 209, 210, 211, 212, 213, 214, 215, 216, 217] (by decide +kernel) (by decide +kernel)
set_option maxRecDepth 20000 in
theorem gL_isWell_X1_corner : GoodIn wsL_isWell (wsV RL 52 RX1 yX1_corner wsX1_corner) := goodIn_app (goodIn_of _ (by decide +kernel)) ggL_isWell_X1_corner
set_option maxRecDepth 20000 in
theorem ggL_isWell_X1_name : GoodIn wsL_isWell wsX1_name := goodIn_r _ [75, 6, 76, 77, 78, 12, 79, 58, 59, 18, 60, 20, 80, 26, 27, 28, 29, 30, 31, 32, 33, 34, 81, 82, 83, 84, 85, 86, 87, 88, 89, 21, 22, 23, 24, 25, 194, 195, 196, 197, 198, 199, 200, 201, 202, 203, 204, 205, 206, 207, 208, 209, 210, 211, 212, 213, 214, 215, 216, 217] (by decide +kernel) (by decide +kernel)
set_option maxRecDepth 20000 in
theorem gL_isWell_X1_name : GoodIn wsL_isWell (wsV RL 40 RX1 yX1_name wsX1_name) := goodIn_app (goodIn_of _ (by decide +kernel)) ggL_isWell_X1_name
set_option maxRecDepth 20000 in
theorem ggL_isWell_X1_why : GoodIn wsL_isWell wsX1_why := goodIn_r _ [93, 6, 79, 58, 59, 18, 60, 20, 69, 70, 4, 71, 94, 95, 96, 97, 30, 31, 32, 33, 34, 98, 99, 100, 101, 52, 53, 54, 55, 56, 57, 102, 103, 104, 105, 106, 107, 108, 109, 110, 111, 112, 113, 114, 115, 116, 117, 29, 89, 118, 119, 194, 195, 196, 197, 198, 199, 200, 201, 202, 203, 204, 205, 206, 207, 208, 209, 210, 211, 212, 213, 214, 215, 216, 217] (by decide +kernel) (by decide +kernel)
set_option maxRecDepth 20000 in
theorem gL_isWell_X1_why : GoodIn wsL_isWell (wsV RL 74 RX1 yX1_why wsX1_why) := goodIn_app (goodIn_of _ (by decide +kernel)) ggL_isWell_X1_why
set_option maxRecDepth 20000 in
theorem ggL_isWell_X1_bestCorner : GoodIn wsL_isWell wsX1_bestCorner := goodIn_r _ [123, 6, 79, 58, 59, 18, 60, 20, 124, 125, 126, 127, 30, 31, 32, 33, 34, 98, 99, 100, 101, 52, 53, 54, 55, 56, 57, 102, 103, 104, 105, 106, 107, 108, 109, 110, 111, 112, 113, 114, 115, 116, 117, 29, 89, 118, 119, 194, 195, 196, 197, 198, 199, 200, 201, 202, 203, 204, 205, 206, 207, 208, 209, 210, 211, 212, 213, 214, 215, 216, 217] (by decide +kernel) (by decide +kernel)
set_option maxRecDepth 20000 in
theorem gL_isWell_X1_bestCorner : GoodIn wsL_isWell (wsV RL 86 RX1 yX1_bestCorner wsX1_bestCorner) := goodIn_app (goodIn_of _ (by decide +kernel)) ggL_isWell_X1_bestCorner
set_option maxRecDepth 20000 in
theorem ggL_isWell_X1_alike : GoodIn wsL_isWell wsX1_alike := goodIn_r _ [131, 6, 77, 79, 58, 59, 18, 60, 20, 132, 133, 134, 135, 136, 137, 138, 139, 140, 141, 142, 143, 144, 145, 146, 147, 148, 149, 194, 195, 196, 197, 198, 199, 200, 201, 202, 203, 204, 205, 206, 207, 208, 209, 210, 211, 212, 213, 214, 215, 216, 217] (by decide +kernel) (by decide +kernel)
set_option maxRecDepth 20000 in
theorem gL_isWell_X1_alike : GoodIn wsL_isWell (wsV RL 92 RX1 yX1_alike wsX1_alike) := goodIn_app (goodIn_of _ (by decide +kernel)) ggL_isWell_X1_alike
set_option maxRecDepth 20000 in
theorem ggL_isWell_X1_untilPosted : GoodIn wsL_isWell wsX1_untilPosted := goodIn_r _ [153, 6, 10, 154, 39, 40, 4, 41, 155, 156, 157, 7, 8, 9, 158, 159, 112, 109, 113, 160, 161, 162, 163, 78, 77, 76, 164, 12, 65, 11, 66, 67, 165, 68, 166, 167, 168, 169, 170, 171, 18, 172, 118, 173, 174, 175, 176, 20, 89, 21, 22, 23, 24, 25, 26, 27, 28, 29, 30, 31, 32, 33, 34, 177, 125, 126, 127, 98, 99, 100, 101, 52, 53, 54, 55, 56, 57, 58, 59, 60, 102, 103, 104, 105, 106, 107, 108, 110, 111, 114, 115, 116, 117, 119, 178, 179, 180, 181, 182, 183, 184, 185, 186, 187, 188, 189, 190, 191, 192, 193, 194, 195, 196, 197, 198, 199, 200, 201, 202, 203, 204, 205, 206, 207, 208, 209, 210, 211, 212, 213, 214, 215, 216, 217] (by decide +kernel) (by decide +kernel)
set_option maxRecDepth 20000 in
theorem gL_isWell_X1_untilPosted : GoodIn wsL_isWell (wsV RL 80 RX1 yX1_untilPosted wsX1_untilPosted) := goodIn_app (goodIn_of _ (by decide +kernel)) ggL_isWell_X1_untilPosted
theorem dL_isWell_0 : decode cL_isWell 0 = .ok (.iconst 0, 1) := by decide +kernel
theorem dL_isWell_1 : decode cL_isWell 1 = .ok (.istore_n 1, 1) := by decide +kernel
theorem dL_isWell_2 : decode cL_isWell 2 = .ok (.iconst 0, 1) := by decide +kernel
theorem dL_isWell_3 : decode cL_isWell 3 = .ok (.istore_n 2, 1) := by decide +kernel
theorem dL_isWell_4 : decode cL_isWell 4 = .ok (.iconst 0, 1) := by decide +kernel
theorem dL_isWell_5 : decode cL_isWell 5 = .ok (.istore_n 3, 1) := by decide +kernel
theorem dL_isWell_6 : decode cL_isWell 6 = .ok (.iconst 0, 1) := by decide +kernel
theorem dL_isWell_7 : decode cL_isWell 7 = .ok (.istore 4, 2) := by decide +kernel
theorem dL_isWell_9 : decode cL_isWell 9 = .ok (.iconst 0, 1) := by decide +kernel
theorem dL_isWell_10 : decode cL_isWell 10 = .ok (.istore 5, 2) := by decide +kernel
theorem dL_isWell_12 : decode cL_isWell 12 = .ok (.iconst 0, 1) := by decide +kernel
theorem dL_isWell_13 : decode cL_isWell 13 = .ok (.istore 6, 2) := by decide +kernel
theorem dL_isWell_15 : decode cL_isWell 15 = .ok (.aload_n 0, 1) := by decide +kernel
theorem dL_isWell_16 : decode cL_isWell 16 = .ok (.iconst 5, 1) := by decide +kernel
theorem dL_isWell_17 : decode cL_isWell 17 = .ok (.invokevirtual 21, 3) := by decide +kernel
theorem dL_isWell_20 : decode cL_isWell 20 = .ok (.istore 7, 2) := by decide +kernel
theorem dL_isWell_22 : decode cL_isWell 22 = .ok (.iconst 1, 1) := by decide +kernel
theorem dL_isWell_23 : decode cL_isWell 23 = .ok (.istore 8, 2) := by decide +kernel
theorem dL_isWell_25 : decode cL_isWell 25 = .ok (.iconst 0, 1) := by decide +kernel
theorem dL_isWell_26 : decode cL_isWell 26 = .ok (.istore 9, 2) := by decide +kernel
theorem dL_isWell_28 : decode cL_isWell 28 = .ok (.iload 9, 2) := by decide +kernel
theorem dL_isWell_30 : decode cL_isWell 30 = .ok (.bipush 12, 2) := by decide +kernel
theorem dL_isWell_32 : decode cL_isWell 32 = .ok (.if_icmp .ge 172, 3) := by decide +kernel
theorem dL_isWell_35 : decode cL_isWell 35 = .ok (.aload_n 0, 1) := by decide +kernel
theorem dL_isWell_36 : decode cL_isWell 36 = .ok (.iload 9, 2) := by decide +kernel
theorem dL_isWell_38 : decode cL_isWell 38 = .ok (.iconst 0, 1) := by decide +kernel
theorem dL_isWell_39 : decode cL_isWell 39 = .ok (.invokevirtual 52, 3) := by decide +kernel
theorem dL_isWell_42 : decode cL_isWell 42 = .ok (.istore 10, 2) := by decide +kernel
theorem dL_isWell_44 : decode cL_isWell 44 = .ok (.iload_n 1, 1) := by decide +kernel
theorem dL_isWell_45 : decode cL_isWell 45 = .ok (.aload_n 0, 1) := by decide +kernel
theorem dL_isWell_46 : decode cL_isWell 46 = .ok (.iload 9, 2) := by decide +kernel
theorem dL_isWell_48 : decode cL_isWell 48 = .ok (.iconst 1, 1) := by decide +kernel
theorem dL_isWell_49 : decode cL_isWell 49 = .ok (.invokevirtual 52, 3) := by decide +kernel
theorem dL_isWell_52 : decode cL_isWell 52 = .ok (.iadd, 1) := by decide +kernel
theorem dL_isWell_53 : decode cL_isWell 53 = .ok (.istore_n 1, 1) := by decide +kernel
theorem dL_isWell_54 : decode cL_isWell 54 = .ok (.iload_n 2, 1) := by decide +kernel
theorem dL_isWell_55 : decode cL_isWell 55 = .ok (.aload_n 0, 1) := by decide +kernel
theorem dL_isWell_56 : decode cL_isWell 56 = .ok (.iload 9, 2) := by decide +kernel
theorem dL_isWell_58 : decode cL_isWell 58 = .ok (.iconst 2, 1) := by decide +kernel
theorem dL_isWell_59 : decode cL_isWell 59 = .ok (.invokevirtual 52, 3) := by decide +kernel
theorem dL_isWell_62 : decode cL_isWell 62 = .ok (.iadd, 1) := by decide +kernel
theorem dL_isWell_63 : decode cL_isWell 63 = .ok (.istore_n 2, 1) := by decide +kernel
theorem dL_isWell_64 : decode cL_isWell 64 = .ok (.iload 4, 2) := by decide +kernel
theorem dL_isWell_66 : decode cL_isWell 66 = .ok (.aload_n 0, 1) := by decide +kernel
theorem dL_isWell_67 : decode cL_isWell 67 = .ok (.iload 9, 2) := by decide +kernel
theorem dL_isWell_69 : decode cL_isWell 69 = .ok (.iconst 4, 1) := by decide +kernel
theorem dL_isWell_70 : decode cL_isWell 70 = .ok (.invokevirtual 52, 3) := by decide +kernel
theorem dL_isWell_73 : decode cL_isWell 73 = .ok (.iadd, 1) := by decide +kernel
theorem dL_isWell_74 : decode cL_isWell 74 = .ok (.istore 4, 2) := by decide +kernel
theorem dL_isWell_76 : decode cL_isWell 76 = .ok (.iload_n 3, 1) := by decide +kernel
theorem dL_isWell_77 : decode cL_isWell 77 = .ok (.iload 10, 2) := by decide +kernel
theorem dL_isWell_79 : decode cL_isWell 79 = .ok (.ifCond .lt 7, 3) := by decide +kernel
theorem dL_isWell_82 : decode cL_isWell 82 = .ok (.iconst 1, 1) := by decide +kernel
theorem dL_isWell_83 : decode cL_isWell 83 = .ok (.goto 4, 3) := by decide +kernel
theorem dL_isWell_86 : decode cL_isWell 86 = .ok (.iconst 0, 1) := by decide +kernel
theorem dL_isWell_87 : decode cL_isWell 87 = .ok (.iadd, 1) := by decide +kernel
theorem dL_isWell_88 : decode cL_isWell 88 = .ok (.istore_n 3, 1) := by decide +kernel
theorem dL_isWell_89 : decode cL_isWell 89 = .ok (.iload 8, 2) := by decide +kernel
theorem dL_isWell_91 : decode cL_isWell 91 = .ok (.ifCond .eq 104, 3) := by decide +kernel
theorem dL_isWell_94 : decode cL_isWell 94 = .ok (.aload_n 0, 1) := by decide +kernel
theorem dL_isWell_95 : decode cL_isWell 95 = .ok (.iload 9, 2) := by decide +kernel
theorem dL_isWell_97 : decode cL_isWell 97 = .ok (.iconst 1, 1) := by decide +kernel
theorem dL_isWell_98 : decode cL_isWell 98 = .ok (.invokevirtual 52, 3) := by decide +kernel
theorem dL_isWell_101 : decode cL_isWell 101 = .ok (.ifCond .lt 94, 3) := by decide +kernel
theorem dL_isWell_104 : decode cL_isWell 104 = .ok (.iload 10, 2) := by decide +kernel
theorem dL_isWell_106 : decode cL_isWell 106 = .ok (.ifCond .lt 7, 3) := by decide +kernel
theorem dL_isWell_109 : decode cL_isWell 109 = .ok (.iconst 1, 1) := by decide +kernel
theorem dL_isWell_110 : decode cL_isWell 110 = .ok (.goto 4, 3) := by decide +kernel
theorem dL_isWell_113 : decode cL_isWell 113 = .ok (.iconst 0, 1) := by decide +kernel
theorem dL_isWell_114 : decode cL_isWell 114 = .ok (.aload_n 0, 1) := by decide +kernel
theorem dL_isWell_115 : decode cL_isWell 115 = .ok (.iload 9, 2) := by decide +kernel
theorem dL_isWell_117 : decode cL_isWell 117 = .ok (.iconst 3, 1) := by decide +kernel
theorem dL_isWell_118 : decode cL_isWell 118 = .ok (.invokevirtual 52, 3) := by decide +kernel
theorem dL_isWell_121 : decode cL_isWell 121 = .ok (.ifCond .lt 7, 3) := by decide +kernel
theorem dL_isWell_124 : decode cL_isWell 124 = .ok (.iconst 1, 1) := by decide +kernel
theorem dL_isWell_125 : decode cL_isWell 125 = .ok (.goto 4, 3) := by decide +kernel
theorem dL_isWell_128 : decode cL_isWell 128 = .ok (.iconst 0, 1) := by decide +kernel
theorem dL_isWell_129 : decode cL_isWell 129 = .ok (.if_icmp .ne 66, 3) := by decide +kernel
theorem dL_isWell_132 : decode cL_isWell 132 = .ok (.iload 10, 2) := by decide +kernel
theorem dL_isWell_134 : decode cL_isWell 134 = .ok (.ifCond .lt 57, 3) := by decide +kernel
theorem dL_isWell_137 : decode cL_isWell 137 = .ok (.aload_n 0, 1) := by decide +kernel
theorem dL_isWell_138 : decode cL_isWell 138 = .ok (.iload 10, 2) := by decide +kernel
theorem dL_isWell_140 : decode cL_isWell 140 = .ok (.iconst 2, 1) := by decide +kernel
theorem dL_isWell_141 : decode cL_isWell 141 = .ok (.invokevirtual 40, 3) := by decide +kernel
theorem dL_isWell_144 : decode cL_isWell 144 = .ok (.iload 9, 2) := by decide +kernel
theorem dL_isWell_146 : decode cL_isWell 146 = .ok (.ishr, 1) := by decide +kernel
theorem dL_isWell_147 : decode cL_isWell 147 = .ok (.iconst 1, 1) := by decide +kernel
theorem dL_isWell_148 : decode cL_isWell 148 = .ok (.iand, 1) := by decide +kernel
theorem dL_isWell_149 : decode cL_isWell 149 = .ok (.iconst 1, 1) := by decide +kernel
theorem dL_isWell_150 : decode cL_isWell 150 = .ok (.if_icmp .ne 45, 3) := by decide +kernel
theorem dL_isWell_153 : decode cL_isWell 153 = .ok (.aload_n 0, 1) := by decide +kernel
theorem dL_isWell_154 : decode cL_isWell 154 = .ok (.iload 10, 2) := by decide +kernel
theorem dL_isWell_156 : decode cL_isWell 156 = .ok (.iconst 1, 1) := by decide +kernel
theorem dL_isWell_157 : decode cL_isWell 157 = .ok (.invokevirtual 40, 3) := by decide +kernel
theorem dL_isWell_160 : decode cL_isWell 160 = .ok (.iconst 1, 1) := by decide +kernel
theorem dL_isWell_161 : decode cL_isWell 161 = .ok (.if_icmp .ne 34, 3) := by decide +kernel
theorem dL_isWell_164 : decode cL_isWell 164 = .ok (.aload_n 0, 1) := by decide +kernel
theorem dL_isWell_165 : decode cL_isWell 165 = .ok (.iload 10, 2) := by decide +kernel
theorem dL_isWell_167 : decode cL_isWell 167 = .ok (.iload 9, 2) := by decide +kernel
theorem dL_isWell_169 : decode cL_isWell 169 = .ok (.invokevirtual 74, 3) := by decide +kernel
theorem dL_isWell_172 : decode cL_isWell 172 = .ok (.iconst 2, 1) := by decide +kernel
theorem dL_isWell_173 : decode cL_isWell 173 = .ok (.if_icmp .ne 22, 3) := by decide +kernel
theorem dL_isWell_176 : decode cL_isWell 176 = .ok (.aload_n 0, 1) := by decide +kernel
theorem dL_isWell_177 : decode cL_isWell 177 = .ok (.iload 9, 2) := by decide +kernel
theorem dL_isWell_179 : decode cL_isWell 179 = .ok (.iconst 3, 1) := by decide +kernel
theorem dL_isWell_180 : decode cL_isWell 180 = .ok (.invokevirtual 52, 3) := by decide +kernel
theorem dL_isWell_183 : decode cL_isWell 183 = .ok (.aload_n 0, 1) := by decide +kernel
theorem dL_isWell_184 : decode cL_isWell 184 = .ok (.iconst 4, 1) := by decide +kernel
theorem dL_isWell_185 : decode cL_isWell 185 = .ok (.invokevirtual 21, 3) := by decide +kernel
theorem dL_isWell_188 : decode cL_isWell 188 = .ok (.if_icmp .gt 7, 3) := by decide +kernel
theorem dL_isWell_191 : decode cL_isWell 191 = .ok (.iconst 1, 1) := by decide +kernel
theorem dL_isWell_192 : decode cL_isWell 192 = .ok (.goto 4, 3) := by decide +kernel
theorem dL_isWell_195 : decode cL_isWell 195 = .ok (.iconst 0, 1) := by decide +kernel
theorem dL_isWell_196 : decode cL_isWell 196 = .ok (.istore 8, 2) := by decide +kernel
theorem dL_isWell_198 : decode cL_isWell 198 = .ok (.iinc 9 1, 3) := by decide +kernel
theorem dL_isWell_201 : decode cL_isWell 201 = .ok (.goto (-173), 3) := by decide +kernel
theorem dL_isWell_204 : decode cL_isWell 204 = .ok (.iconst 0, 1) := by decide +kernel
theorem dL_isWell_205 : decode cL_isWell 205 = .ok (.istore 9, 2) := by decide +kernel
theorem dL_isWell_207 : decode cL_isWell 207 = .ok (.iload 9, 2) := by decide +kernel
theorem dL_isWell_209 : decode cL_isWell 209 = .ok (.iload 7, 2) := by decide +kernel
theorem dL_isWell_211 : decode cL_isWell 211 = .ok (.if_icmp .ge 263, 3) := by decide +kernel
theorem dL_isWell_214 : decode cL_isWell 214 = .ok (.aload_n 0, 1) := by decide +kernel
theorem dL_isWell_215 : decode cL_isWell 215 = .ok (.iload 9, 2) := by decide +kernel
theorem dL_isWell_217 : decode cL_isWell 217 = .ok (.iconst 1, 1) := by decide +kernel
theorem dL_isWell_218 : decode cL_isWell 218 = .ok (.invokevirtual 40, 3) := by decide +kernel
theorem dL_isWell_221 : decode cL_isWell 221 = .ok (.istore 10, 2) := by decide +kernel
theorem dL_isWell_223 : decode cL_isWell 223 = .ok (.aload_n 0, 1) := by decide +kernel
theorem dL_isWell_224 : decode cL_isWell 224 = .ok (.iload 9, 2) := by decide +kernel
theorem dL_isWell_226 : decode cL_isWell 226 = .ok (.invokevirtual 86, 3) := by decide +kernel
theorem dL_isWell_229 : decode cL_isWell 229 = .ok (.istore 11, 2) := by decide +kernel
theorem dL_isWell_231 : decode cL_isWell 231 = .ok (.iload 5, 2) := by decide +kernel
theorem dL_isWell_233 : decode cL_isWell 233 = .ok (.aload_n 0, 1) := by decide +kernel
theorem dL_isWell_234 : decode cL_isWell 234 = .ok (.iload 9, 2) := by decide +kernel
theorem dL_isWell_236 : decode cL_isWell 236 = .ok (.bipush 6, 2) := by decide +kernel
theorem dL_isWell_238 : decode cL_isWell 238 = .ok (.invokevirtual 40, 3) := by decide +kernel
theorem dL_isWell_241 : decode cL_isWell 241 = .ok (.iadd, 1) := by decide +kernel
theorem dL_isWell_242 : decode cL_isWell 242 = .ok (.istore 5, 2) := by decide +kernel
theorem dL_isWell_244 : decode cL_isWell 244 = .ok (.iload 6, 2) := by decide +kernel
theorem dL_isWell_246 : decode cL_isWell 246 = .ok (.iload 10, 2) := by decide +kernel
theorem dL_isWell_248 : decode cL_isWell 248 = .ok (.ifCond .ne 7, 3) := by decide +kernel
theorem dL_isWell_251 : decode cL_isWell 251 = .ok (.iconst 1, 1) := by decide +kernel
theorem dL_isWell_252 : decode cL_isWell 252 = .ok (.goto 4, 3) := by decide +kernel
theorem dL_isWell_255 : decode cL_isWell 255 = .ok (.iconst 0, 1) := by decide +kernel
theorem dL_isWell_256 : decode cL_isWell 256 = .ok (.iadd, 1) := by decide +kernel
theorem dL_isWell_257 : decode cL_isWell 257 = .ok (.istore 6, 2) := by decide +kernel
theorem dL_isWell_259 : decode cL_isWell 259 = .ok (.iload 8, 2) := by decide +kernel
theorem dL_isWell_261 : decode cL_isWell 261 = .ok (.ifCond .eq 115, 3) := by decide +kernel
theorem dL_isWell_264 : decode cL_isWell 264 = .ok (.iload 10, 2) := by decide +kernel
theorem dL_isWell_266 : decode cL_isWell 266 = .ok (.iconst 1, 1) := by decide +kernel
theorem dL_isWell_267 : decode cL_isWell 267 = .ok (.if_icmp .ne 7, 3) := by decide +kernel
theorem dL_isWell_270 : decode cL_isWell 270 = .ok (.iconst 1, 1) := by decide +kernel
theorem dL_isWell_271 : decode cL_isWell 271 = .ok (.goto 4, 3) := by decide +kernel
theorem dL_isWell_274 : decode cL_isWell 274 = .ok (.iconst 0, 1) := by decide +kernel
theorem dL_isWell_275 : decode cL_isWell 275 = .ok (.aload_n 0, 1) := by decide +kernel
theorem dL_isWell_276 : decode cL_isWell 276 = .ok (.iload 9, 2) := by decide +kernel
theorem dL_isWell_278 : decode cL_isWell 278 = .ok (.iconst 2, 1) := by decide +kernel
theorem dL_isWell_279 : decode cL_isWell 279 = .ok (.invokevirtual 40, 3) := by decide +kernel
theorem dL_isWell_282 : decode cL_isWell 282 = .ok (.ifCond .eq 7, 3) := by decide +kernel
theorem dL_isWell_285 : decode cL_isWell 285 = .ok (.iconst 1, 1) := by decide +kernel
theorem dL_isWell_286 : decode cL_isWell 286 = .ok (.goto 4, 3) := by decide +kernel
theorem dL_isWell_289 : decode cL_isWell 289 = .ok (.iconst 0, 1) := by decide +kernel
theorem dL_isWell_290 : decode cL_isWell 290 = .ok (.if_icmp .ne 86, 3) := by decide +kernel
theorem dL_isWell_293 : decode cL_isWell 293 = .ok (.iload 10, 2) := by decide +kernel
theorem dL_isWell_295 : decode cL_isWell 295 = .ok (.ifCond .ne 7, 3) := by decide +kernel
theorem dL_isWell_298 : decode cL_isWell 298 = .ok (.iconst 1, 1) := by decide +kernel
theorem dL_isWell_299 : decode cL_isWell 299 = .ok (.goto 4, 3) := by decide +kernel
theorem dL_isWell_302 : decode cL_isWell 302 = .ok (.iconst 0, 1) := by decide +kernel
theorem dL_isWell_303 : decode cL_isWell 303 = .ok (.aload_n 0, 1) := by decide +kernel
theorem dL_isWell_304 : decode cL_isWell 304 = .ok (.iload 9, 2) := by decide +kernel
theorem dL_isWell_306 : decode cL_isWell 306 = .ok (.iconst 3, 1) := by decide +kernel
theorem dL_isWell_307 : decode cL_isWell 307 = .ok (.invokevirtual 40, 3) := by decide +kernel
theorem dL_isWell_310 : decode cL_isWell 310 = .ok (.ifCond .lt 7, 3) := by decide +kernel
theorem dL_isWell_313 : decode cL_isWell 313 = .ok (.iconst 1, 1) := by decide +kernel
theorem dL_isWell_314 : decode cL_isWell 314 = .ok (.goto 4, 3) := by decide +kernel
theorem dL_isWell_317 : decode cL_isWell 317 = .ok (.iconst 0, 1) := by decide +kernel
theorem dL_isWell_318 : decode cL_isWell 318 = .ok (.if_icmp .ne 58, 3) := by decide +kernel
theorem dL_isWell_321 : decode cL_isWell 321 = .ok (.iload 10, 2) := by decide +kernel
theorem dL_isWell_323 : decode cL_isWell 323 = .ok (.iconst 2, 1) := by decide +kernel
theorem dL_isWell_324 : decode cL_isWell 324 = .ok (.if_icmp .ne 21, 3) := by decide +kernel
theorem dL_isWell_327 : decode cL_isWell 327 = .ok (.iload 11, 2) := by decide +kernel
theorem dL_isWell_329 : decode cL_isWell 329 = .ok (.bipush (-6), 2) := by decide +kernel
theorem dL_isWell_331 : decode cL_isWell 331 = .ok (.if_icmp .ne 45, 3) := by decide +kernel
theorem dL_isWell_334 : decode cL_isWell 334 = .ok (.aload_n 0, 1) := by decide +kernel
theorem dL_isWell_335 : decode cL_isWell 335 = .ok (.iload 9, 2) := by decide +kernel
theorem dL_isWell_337 : decode cL_isWell 337 = .ok (.iconst 3, 1) := by decide +kernel
theorem dL_isWell_338 : decode cL_isWell 338 = .ok (.invokevirtual 74, 3) := by decide +kernel
theorem dL_isWell_341 : decode cL_isWell 341 = .ok (.iconst 1, 1) := by decide +kernel
theorem dL_isWell_342 : decode cL_isWell 342 = .ok (.if_icmp .ne 34, 3) := by decide +kernel
theorem dL_isWell_345 : decode cL_isWell 345 = .ok (.iload 11, 2) := by decide +kernel
theorem dL_isWell_347 : decode cL_isWell 347 = .ok (.ifCond .lt 14, 3) := by decide +kernel
theorem dL_isWell_350 : decode cL_isWell 350 = .ok (.aload_n 0, 1) := by decide +kernel
theorem dL_isWell_351 : decode cL_isWell 351 = .ok (.iload 9, 2) := by decide +kernel
theorem dL_isWell_353 : decode cL_isWell 353 = .ok (.iload 11, 2) := by decide +kernel
theorem dL_isWell_355 : decode cL_isWell 355 = .ok (.invokevirtual 74, 3) := by decide +kernel
theorem dL_isWell_358 : decode cL_isWell 358 = .ok (.ifCond .ne 18, 3) := by decide +kernel
theorem dL_isWell_361 : decode cL_isWell 361 = .ok (.aload_n 0, 1) := by decide +kernel
theorem dL_isWell_362 : decode cL_isWell 362 = .ok (.iload 9, 2) := by decide +kernel
theorem dL_isWell_364 : decode cL_isWell 364 = .ok (.iconst 5, 1) := by decide +kernel
theorem dL_isWell_365 : decode cL_isWell 365 = .ok (.invokevirtual 40, 3) := by decide +kernel
theorem dL_isWell_368 : decode cL_isWell 368 = .ok (.iconst 1, 1) := by decide +kernel
theorem dL_isWell_369 : decode cL_isWell 369 = .ok (.if_icmp .le 7, 3) := by decide +kernel
theorem dL_isWell_372 : decode cL_isWell 372 = .ok (.iconst 1, 1) := by decide +kernel
theorem dL_isWell_373 : decode cL_isWell 373 = .ok (.goto 4, 3) := by decide +kernel
theorem dL_isWell_376 : decode cL_isWell 376 = .ok (.iconst 0, 1) := by decide +kernel
theorem dL_isWell_377 : decode cL_isWell 377 = .ok (.istore 8, 2) := by decide +kernel
theorem dL_isWell_379 : decode cL_isWell 379 = .ok (.iconst 0, 1) := by decide +kernel
theorem dL_isWell_380 : decode cL_isWell 380 = .ok (.istore 12, 2) := by decide +kernel
theorem dL_isWell_382 : decode cL_isWell 382 = .ok (.iload 12, 2) := by decide +kernel
theorem dL_isWell_384 : decode cL_isWell 384 = .ok (.iload 9, 2) := by decide +kernel
theorem dL_isWell_386 : decode cL_isWell 386 = .ok (.if_icmp .ge 82, 3) := by decide +kernel
theorem dL_isWell_389 : decode cL_isWell 389 = .ok (.aload_n 0, 1) := by decide +kernel
theorem dL_isWell_390 : decode cL_isWell 390 = .ok (.iload 12, 2) := by decide +kernel
theorem dL_isWell_392 : decode cL_isWell 392 = .ok (.iload 9, 2) := by decide +kernel
theorem dL_isWell_394 : decode cL_isWell 394 = .ok (.iconst 0, 1) := by decide +kernel
theorem dL_isWell_395 : decode cL_isWell 395 = .ok (.invokevirtual 92, 3) := by decide +kernel
theorem dL_isWell_398 : decode cL_isWell 398 = .ok (.istore 13, 2) := by decide +kernel
theorem dL_isWell_400 : decode cL_isWell 400 = .ok (.iload 8, 2) := by decide +kernel
theorem dL_isWell_402 : decode cL_isWell 402 = .ok (.ifCond .eq 57, 3) := by decide +kernel
theorem dL_isWell_405 : decode cL_isWell 405 = .ok (.iload 13, 2) := by decide +kernel
theorem dL_isWell_407 : decode cL_isWell 407 = .ok (.aload_n 0, 1) := by decide +kernel
theorem dL_isWell_408 : decode cL_isWell 408 = .ok (.iload 9, 2) := by decide +kernel
theorem dL_isWell_410 : decode cL_isWell 410 = .ok (.iload 12, 2) := by decide +kernel
theorem dL_isWell_412 : decode cL_isWell 412 = .ok (.iconst 1, 1) := by decide +kernel
theorem dL_isWell_413 : decode cL_isWell 413 = .ok (.invokevirtual 92, 3) := by decide +kernel
theorem dL_isWell_416 : decode cL_isWell 416 = .ok (.if_icmp .ne 43, 3) := by decide +kernel
theorem dL_isWell_419 : decode cL_isWell 419 = .ok (.iload 13, 2) := by decide +kernel
theorem dL_isWell_421 : decode cL_isWell 421 = .ok (.iconst 1, 1) := by decide +kernel
theorem dL_isWell_422 : decode cL_isWell 422 = .ok (.if_icmp .ne 7, 3) := by decide +kernel
theorem dL_isWell_425 : decode cL_isWell 425 = .ok (.iconst 1, 1) := by decide +kernel
theorem dL_isWell_426 : decode cL_isWell 426 = .ok (.goto 4, 3) := by decide +kernel
theorem dL_isWell_429 : decode cL_isWell 429 = .ok (.iconst 0, 1) := by decide +kernel
theorem dL_isWell_430 : decode cL_isWell 430 = .ok (.aload_n 0, 1) := by decide +kernel
theorem dL_isWell_431 : decode cL_isWell 431 = .ok (.iload 12, 2) := by decide +kernel
theorem dL_isWell_433 : decode cL_isWell 433 = .ok (.iconst 4, 1) := by decide +kernel
theorem dL_isWell_434 : decode cL_isWell 434 = .ok (.invokevirtual 40, 3) := by decide +kernel
theorem dL_isWell_437 : decode cL_isWell 437 = .ok (.aload_n 0, 1) := by decide +kernel
theorem dL_isWell_438 : decode cL_isWell 438 = .ok (.iload 9, 2) := by decide +kernel
theorem dL_isWell_440 : decode cL_isWell 440 = .ok (.iconst 4, 1) := by decide +kernel
theorem dL_isWell_441 : decode cL_isWell 441 = .ok (.invokevirtual 40, 3) := by decide +kernel
theorem dL_isWell_444 : decode cL_isWell 444 = .ok (.if_icmp .ne 7, 3) := by decide +kernel
theorem dL_isWell_447 : decode cL_isWell 447 = .ok (.iconst 1, 1) := by decide +kernel
theorem dL_isWell_448 : decode cL_isWell 448 = .ok (.goto 4, 3) := by decide +kernel
theorem dL_isWell_451 : decode cL_isWell 451 = .ok (.iconst 0, 1) := by decide +kernel
theorem dL_isWell_452 : decode cL_isWell 452 = .ok (.if_icmp .ne 7, 3) := by decide +kernel
theorem dL_isWell_455 : decode cL_isWell 455 = .ok (.iconst 1, 1) := by decide +kernel
theorem dL_isWell_456 : decode cL_isWell 456 = .ok (.goto 4, 3) := by decide +kernel
theorem dL_isWell_459 : decode cL_isWell 459 = .ok (.iconst 0, 1) := by decide +kernel
theorem dL_isWell_460 : decode cL_isWell 460 = .ok (.istore 8, 2) := by decide +kernel
theorem dL_isWell_462 : decode cL_isWell 462 = .ok (.iinc 12 1, 3) := by decide +kernel
theorem dL_isWell_465 : decode cL_isWell 465 = .ok (.goto (-83), 3) := by decide +kernel
theorem dL_isWell_468 : decode cL_isWell 468 = .ok (.iinc 9 1, 3) := by decide +kernel
theorem dL_isWell_471 : decode cL_isWell 471 = .ok (.goto (-264), 3) := by decide +kernel
theorem dL_isWell_474 : decode cL_isWell 474 = .ok (.iload 8, 2) := by decide +kernel
theorem dL_isWell_476 : decode cL_isWell 476 = .ok (.ifCond .eq 95, 3) := by decide +kernel
theorem dL_isWell_479 : decode cL_isWell 479 = .ok (.iload_n 1, 1) := by decide +kernel
theorem dL_isWell_480 : decode cL_isWell 480 = .ok (.aload_n 0, 1) := by decide +kernel
theorem dL_isWell_481 : decode cL_isWell 481 = .ok (.bipush 8, 2) := by decide +kernel
theorem dL_isWell_483 : decode cL_isWell 483 = .ok (.invokevirtual 21, 3) := by decide +kernel
theorem dL_isWell_486 : decode cL_isWell 486 = .ok (.if_icmp .ne 85, 3) := by decide +kernel
theorem dL_isWell_489 : decode cL_isWell 489 = .ok (.iload_n 2, 1) := by decide +kernel
theorem dL_isWell_490 : decode cL_isWell 490 = .ok (.aload_n 0, 1) := by decide +kernel
theorem dL_isWell_491 : decode cL_isWell 491 = .ok (.bipush 9, 2) := by decide +kernel
theorem dL_isWell_493 : decode cL_isWell 493 = .ok (.invokevirtual 21, 3) := by decide +kernel
theorem dL_isWell_496 : decode cL_isWell 496 = .ok (.if_icmp .ne 75, 3) := by decide +kernel
theorem dL_isWell_499 : decode cL_isWell 499 = .ok (.iload_n 3, 1) := by decide +kernel
theorem dL_isWell_500 : decode cL_isWell 500 = .ok (.aload_n 0, 1) := by decide +kernel
theorem dL_isWell_501 : decode cL_isWell 501 = .ok (.bipush 7, 2) := by decide +kernel
theorem dL_isWell_503 : decode cL_isWell 503 = .ok (.invokevirtual 21, 3) := by decide +kernel
theorem dL_isWell_506 : decode cL_isWell 506 = .ok (.if_icmp .ne 65, 3) := by decide +kernel
theorem dL_isWell_509 : decode cL_isWell 509 = .ok (.iload 5, 2) := by decide +kernel
theorem dL_isWell_511 : decode cL_isWell 511 = .ok (.aload_n 0, 1) := by decide +kernel
theorem dL_isWell_512 : decode cL_isWell 512 = .ok (.bipush 10, 2) := by decide +kernel
theorem dL_isWell_514 : decode cL_isWell 514 = .ok (.invokevirtual 21, 3) := by decide +kernel
theorem dL_isWell_517 : decode cL_isWell 517 = .ok (.if_icmp .ne 54, 3) := by decide +kernel
theorem dL_isWell_520 : decode cL_isWell 520 = .ok (.iload 4, 2) := by decide +kernel
theorem dL_isWell_522 : decode cL_isWell 522 = .ok (.iload 5, 2) := by decide +kernel
theorem dL_isWell_524 : decode cL_isWell 524 = .ok (.if_icmp .ne 47, 3) := by decide +kernel
theorem dL_isWell_527 : decode cL_isWell 527 = .ok (.iload 6, 2) := by decide +kernel
theorem dL_isWell_529 : decode cL_isWell 529 = .ok (.aload_n 0, 1) := by decide +kernel
theorem dL_isWell_530 : decode cL_isWell 530 = .ok (.bipush 6, 2) := by decide +kernel
theorem dL_isWell_532 : decode cL_isWell 532 = .ok (.invokevirtual 21, 3) := by decide +kernel
theorem dL_isWell_535 : decode cL_isWell 535 = .ok (.if_icmp .ne 36, 3) := by decide +kernel
theorem dL_isWell_538 : decode cL_isWell 538 = .ok (.aload_n 0, 1) := by decide +kernel
theorem dL_isWell_539 : decode cL_isWell 539 = .ok (.bipush 8, 2) := by decide +kernel
theorem dL_isWell_541 : decode cL_isWell 541 = .ok (.invokevirtual 21, 3) := by decide +kernel
theorem dL_isWell_544 : decode cL_isWell 544 = .ok (.ifCond .ne 7, 3) := by decide +kernel
theorem dL_isWell_547 : decode cL_isWell 547 = .ok (.iconst 1, 1) := by decide +kernel
theorem dL_isWell_548 : decode cL_isWell 548 = .ok (.goto 4, 3) := by decide +kernel
theorem dL_isWell_551 : decode cL_isWell 551 = .ok (.iconst 0, 1) := by decide +kernel
theorem dL_isWell_552 : decode cL_isWell 552 = .ok (.aload_n 0, 1) := by decide +kernel
theorem dL_isWell_553 : decode cL_isWell 553 = .ok (.invokevirtual 80, 3) := by decide +kernel
theorem dL_isWell_556 : decode cL_isWell 556 = .ok (.ifCond .ne 7, 3) := by decide +kernel
theorem dL_isWell_559 : decode cL_isWell 559 = .ok (.iconst 1, 1) := by decide +kernel
theorem dL_isWell_560 : decode cL_isWell 560 = .ok (.goto 4, 3) := by decide +kernel
theorem dL_isWell_563 : decode cL_isWell 563 = .ok (.iconst 0, 1) := by decide +kernel
theorem dL_isWell_564 : decode cL_isWell 564 = .ok (.if_icmp .ne 7, 3) := by decide +kernel
theorem dL_isWell_567 : decode cL_isWell 567 = .ok (.iconst 1, 1) := by decide +kernel
theorem dL_isWell_568 : decode cL_isWell 568 = .ok (.goto 4, 3) := by decide +kernel
theorem dL_isWell_571 : decode cL_isWell 571 = .ok (.iconst 0, 1) := by decide +kernel
theorem dL_isWell_572 : decode cL_isWell 572 = .ok (.ireturn, 1) := by decide +kernel
set_option maxRecDepth 20000 in
theorem ggL_law_X1_init : GoodIn wsL_law wsX1_init := goodIn_r _ [5, 6, 7, 8, 9, 10, 11, 12, 13, 14, 15, 16, 17, 18, 19, 20, 21, 22, 23, 24, 25, 26, 27, 28, 29, 30, 31, 32, 33, 34, 35, 36, 37, 364, 365, 366, 367, 368, 369, 370, 371, 372, 373, 374, 375, 376, 377, 378, 379, 356, 357, 358, 359, 360, 361, 362, 363] (by decide +kernel) (by decide +kernel)
set_option maxRecDepth 20000 in
theorem gL_law_X1_init : GoodIn wsL_law (wsX1_init) := ggL_law_X1_init
set_option maxRecDepth 20000 in
theorem ggL_law_L_cell : GoodIn wsL_law wsL_cell := goodIn_r _ [41, 42] (by decide +kernel) (by decide +kernel)
set_option maxRecDepth 20000 in
theorem gL_law_L_cell : GoodIn wsL_law (va_wsS RL 97 yL_cell wsL_cell) := goodIn_app (goodIn_of _ (by decide +kernel)) ggL_law_L_cell
set_option maxRecDepth 20000 in
theorem ggL_law_L_isRead : GoodIn wsL_law wsL_isRead := goodIn_r _ [45, 46, 47, 48, 49, 2, 50, 51, 52, 53, 54, 55, 12, 56, 57, 58, 59, 60, 61, 62, 63, 64, 65, 11, 66, 67, 68, 69, 70, 71, 72, 73, 74, 75, 30, 76, 77, 78, 79, 32, 80, 81, 82, 83, 84, 85, 86, 87, 88, 89, 90, 91, 37, 92, 93, 94, 95, 96, 97, 98, 99, 28, 100, 101, 102, 103, 104, 105, 40, 106, 107, 108, 109, 110, 111, 112, 113, 114, 115, 116, 117, 118, 119, 120, 121, 122, 19, 123, 124, 125, 126, 127, 128, 129, 130, 131, 132, 133, 134, 135, 136, 137, 138, 139, 140, 141, 142, 143, 144, 145, 146, 147, 148, 149, 150, 14, 151, 152, 153, 154, 155, 156, 157, 158, 159, 160, 161, 162, 163, 164, 165, 166, 167, 168, 169, 170, 171, 172, 173, 174, 175, 176, 177, 178, 26, 179, 27, 29, 31, 180, 181, 182, 183, 184, 185, 186, 187, 188, 189, 190, 191, 192, 193, 194, 195, 196, 197, 198, 199, 200, 201, 356, 357, 358, 359, 360, 361, 362, 363, 364, 365, 366, 367, 368, 369, 370, 371, 372, 373, 374, 375, 376, 377, 378, 379] (by decide +kernel) (by decide +kernel)
set_option maxRecDepth 20000 in
theorem gL_law_L_isRead : GoodIn wsL_law (va_wsS RL 67 yL_isRead wsL_isRead) := goodIn_app (goodIn_of _ (by decide +kernel)) ggL_law_L_isRead
set_option maxRecDepth 20000 in
theorem ggL_law_L_isStep : GoodIn wsL_law wsL_isStep := goodIn_r _ [204, 52, 53, 54, 2, 55, 12, 56, 57, 58, 59, 60, 61, 51, 62, 63, 64, 65, 11, 66, 67, 68, 69, 70, 71, 72, 73, 74, 75, 30, 76, 77, 78, 79, 32, 80, 81, 82, 83, 84, 85, 86, 87, 88, 89, 90, 91, 37, 92, 93, 94, 95, 96, 97, 98, 99, 28, 100, 101, 102, 103, 104, 105, 40, 106, 107, 205, 206, 207, 208, 209, 210, 147, 148, 149, 150, 14, 151, 152, 153, 154, 155, 156, 157, 158, 159, 160, 161, 162, 163, 164, 165, 166, 167, 168, 169, 170, 171, 172, 173, 174, 188, 189, 190, 191, 192, 193, 194, 195, 196, 197, 198, 199, 200, 201, 29, 211, 212, 213, 214, 215, 216, 217, 218, 219, 220, 221, 222, 223, 224, 225, 226, 227, 228, 229, 230, 231, 232, 233, 234, 235, 236, 237, 238, 239, 240, 241, 242, 243, 244, 245, 246, 247, 248, 249, 250, 15, 17, 251, 252, 253, 254, 255, 256, 257, 43, 44, 45, 46, 47, 48, 49, 50, 108, 109, 110, 111, 112, 113, 114, 115, 116, 117, 118, 119, 120, 121, 122, 19, 123, 124, 125, 126, 127, 128, 129, 130, 131, 132, 133, 134, 135, 136, 137, 138, 139, 140, 141, 142, 143, 144, 145, 146, 175, 176, 177, 178, 26, 179, 27, 31, 180, 181, 182, 183, 184, 185, 186, 187, 258, 259, 260, 261, 262, 263, 264, 265, 266, 267, 268, 269, 270, 271, 272, 273, 274, 275, 276, 277, 278, 279, 280, 281, 282, 25, 283, 284, 285, 286, 287, 288, 289, 290, 35, 291, 292, 293, 294, 36, 33, 295, 296, 297, 298, 34, 299, 300, 301, 302, 303, 304, 305, 306, 307, 308, 309, 310, 311, 312, 313, 314, 315, 356, 357, 358, 359, 360, 361, 362, 363, 364, 365, 366, 367, 368, 369, 370, 371, 372, 373, 374, 375, 376, 377, 378, 379] (by decide +kernel) (by decide +kernel)
set_option maxRecDepth 20000 in
theorem gL_law_L_isStep : GoodIn wsL_law (va_wsS RL 101 yL_isStep wsL_isStep) := goodIn_app (goodIn_of _ (by decide +kernel)) ggL_law_L_isStep
set_option maxRecDepth 20000 in
theorem ggL_law_L_isWell : GoodIn wsL_law wsL_isWell := goodIn_r _ [318, 52, 53, 54, 2, 55, 12, 56, 57, 58, 59, 60, 61, 51, 62, 63, 64, 65, 11, 66, 67, 68, 69, 70, 71, 72, 73, 74, 75, 30, 76, 77, 78, 79, 32, 80, 81, 82, 83, 84, 85, 86, 87, 88, 89, 90, 91, 37, 92, 93, 94, 95, 96, 97, 98, 99, 28, 100, 101, 102, 103, 227, 228, 229, 230, 167, 168, 169, 171, 231, 232, 233, 188, 189, 190, 191, 165, 164, 163, 192, 193, 194, 195, 196, 197, 198, 199, 200, 201, 29, 303, 304, 305, 306, 307, 308, 309, 310, 275, 276, 277, 278, 279, 280, 281, 282, 25, 283, 284, 157, 285, 286, 156, 158, 287, 288, 289, 290, 266, 35, 319, 320, 321, 322, 323, 272, 273, 274, 324, 325, 326, 327, 328, 329, 330, 331, 27, 332, 333, 334, 335, 336, 337, 338, 339, 184, 185, 186, 187, 26, 340, 341, 342, 343, 13, 151, 152, 153, 154, 155, 159, 160, 161, 162, 166, 170, 172, 173, 174, 262, 263, 264, 265, 267, 268, 269, 270, 271, 291, 292, 293, 294, 36, 31, 33, 295, 296, 297, 298, 34, 299, 300, 301, 302, 356, 357, 358, 359, 360, 361, 362, 363, 364, 365, 366, 367, 368, 369, 370, 371, 372, 373, 374, 375, 376, 377, 378, 379] (by decide +kernel) (by decide +kernel)
set_option maxRecDepth 20000 in
theorem gL_law_L_isWell : GoodIn wsL_law (va_wsS RL 104 yL_isWell wsL_isWell) := goodIn_app (goodIn_of _ (by decide +kernel)) ggL_law_L_isWell
set_option maxRecDepth 20000 in
theorem ggL_law_L_areAlike : GoodIn wsL_law wsL_areAlike := goodIn_r _ [346, 104, 105, 40, 106, 107, 340, 341, 342, 2, 343, 12, 59, 13, 84, 85, 86, 151, 152, 153, 56, 57, 58, 154, 155, 156, 157, 158, 159, 160, 161, 162, 163, 164, 165, 166, 61, 167, 60, 168, 169, 170, 171, 172, 173, 174, 262, 263, 264, 11, 265, 266, 267, 268, 269, 270, 67, 29, 68, 69, 70, 71, 72, 73, 74, 75, 30, 76, 77, 78, 79, 32, 271, 272, 273, 274, 275, 276, 277, 278, 96, 97, 98, 99, 28, 100, 101, 102, 103, 279, 280, 281, 282, 25, 283, 284, 285, 286, 287, 288, 289, 290, 35, 291, 292, 293, 294, 36, 31, 33, 295, 296, 297, 298, 34, 299, 300, 301, 302, 52, 53, 54, 55, 51, 62, 63, 64, 65, 66, 80, 81, 82, 83, 87, 88, 89, 90, 91, 37, 92, 93, 94, 95, 347, 348, 349, 350, 188, 189, 190, 191, 192, 193, 194, 195, 196, 197, 198, 199, 200, 201, 319, 320, 321, 322, 323, 303, 304, 305, 306, 231, 232, 233, 307, 308, 309, 310, 227, 228, 229, 230, 351, 352, 353, 354, 355, 356, 357, 358, 359, 360, 361, 362, 363, 364, 365, 366, 367, 368, 369, 370, 371, 372, 373, 374, 375, 376, 377, 378, 379] (by decide +kernel) (by decide +kernel)
set_option maxRecDepth 20000 in
theorem gL_law_L_areAlike : GoodIn wsL_law (va_wsS RL 108 yL_areAlike wsL_areAlike) := goodIn_app (goodIn_of _ (by decide +kernel)) ggL_law_L_areAlike
theorem dL_law_0 : decode cL_law 0 = .ok (.new 16, 3) := by decide +kernel
theorem dL_law_3 : decode cL_law 3 = .ok (.dup, 1) := by decide +kernel
theorem dL_law_4 : decode cL_law 4 = .ok (.invokespecial 96, 3) := by decide +kernel
theorem dL_law_7 : decode cL_law 7 = .ok (.astore_n 1, 1) := by decide +kernel
theorem dL_law_8 : decode cL_law 8 = .ok (.new 16, 3) := by decide +kernel
theorem dL_law_11 : decode cL_law 11 = .ok (.dup, 1) := by decide +kernel
theorem dL_law_12 : decode cL_law 12 = .ok (.invokespecial 96, 3) := by decide +kernel
theorem dL_law_15 : decode cL_law 15 = .ok (.astore_n 2, 1) := by decide +kernel
theorem dL_law_16 : decode cL_law 16 = .ok (.aload_n 1, 1) := by decide +kernel
theorem dL_law_17 : decode cL_law 17 = .ok (.aload_n 2, 1) := by decide +kernel
theorem dL_law_18 : decode cL_law 18 = .ok (.aload_n 0, 1) := by decide +kernel
theorem dL_law_19 : decode cL_law 19 = .ok (.iconst 0, 1) := by decide +kernel
theorem dL_law_20 : decode cL_law 20 = .ok (.invokestatic 97, 3) := by decide +kernel
theorem dL_law_23 : decode cL_law 23 = .ok (.aload_n 0, 1) := by decide +kernel
theorem dL_law_24 : decode cL_law 24 = .ok (.iconst 1, 1) := by decide +kernel
theorem dL_law_25 : decode cL_law 25 = .ok (.invokestatic 97, 3) := by decide +kernel
theorem dL_law_28 : decode cL_law 28 = .ok (.invokestatic 67, 3) := by decide +kernel
theorem dL_law_31 : decode cL_law 31 = .ok (.istore_n 3, 1) := by decide +kernel
theorem dL_law_32 : decode cL_law 32 = .ok (.iconst 2, 1) := by decide +kernel
theorem dL_law_33 : decode cL_law 33 = .ok (.istore 4, 2) := by decide +kernel
theorem dL_law_35 : decode cL_law 35 = .ok (.iload 4, 2) := by decide +kernel
theorem dL_law_37 : decode cL_law 37 = .ok (.bipush 54, 2) := by decide +kernel
theorem dL_law_39 : decode cL_law 39 = .ok (.if_icmp .ge 57, 3) := by decide +kernel
theorem dL_law_42 : decode cL_law 42 = .ok (.iload_n 3, 1) := by decide +kernel
theorem dL_law_43 : decode cL_law 43 = .ok (.ifCond .eq 53, 3) := by decide +kernel
theorem dL_law_46 : decode cL_law 46 = .ok (.aload_n 1, 1) := by decide +kernel
theorem dL_law_47 : decode cL_law 47 = .ok (.aload_n 2, 1) := by decide +kernel
theorem dL_law_48 : decode cL_law 48 = .ok (.aload_n 0, 1) := by decide +kernel
theorem dL_law_49 : decode cL_law 49 = .ok (.iload 4, 2) := by decide +kernel
theorem dL_law_51 : decode cL_law 51 = .ok (.invokestatic 97, 3) := by decide +kernel
theorem dL_law_54 : decode cL_law 54 = .ok (.aload_n 0, 1) := by decide +kernel
theorem dL_law_55 : decode cL_law 55 = .ok (.iload 4, 2) := by decide +kernel
theorem dL_law_57 : decode cL_law 57 = .ok (.iconst 1, 1) := by decide +kernel
theorem dL_law_58 : decode cL_law 58 = .ok (.iadd, 1) := by decide +kernel
theorem dL_law_59 : decode cL_law 59 = .ok (.invokestatic 97, 3) := by decide +kernel
theorem dL_law_62 : decode cL_law 62 = .ok (.iconst 2, 1) := by decide +kernel
theorem dL_law_63 : decode cL_law 63 = .ok (.ishr, 1) := by decide +kernel
theorem dL_law_64 : decode cL_law 64 = .ok (.invokestatic 101, 3) := by decide +kernel
theorem dL_law_67 : decode cL_law 67 = .ok (.ifCond .eq 21, 3) := by decide +kernel
theorem dL_law_70 : decode cL_law 70 = .ok (.iload 4, 2) := by decide +kernel
theorem dL_law_72 : decode cL_law 72 = .ok (.iconst 3, 1) := by decide +kernel
theorem dL_law_73 : decode cL_law 73 = .ok (.irem, 1) := by decide +kernel
theorem dL_law_74 : decode cL_law 74 = .ok (.ifCond .gt 10, 3) := by decide +kernel
theorem dL_law_77 : decode cL_law 77 = .ok (.aload_n 1, 1) := by decide +kernel
theorem dL_law_78 : decode cL_law 78 = .ok (.invokestatic 104, 3) := by decide +kernel
theorem dL_law_81 : decode cL_law 81 = .ok (.ifCond .eq 7, 3) := by decide +kernel
theorem dL_law_84 : decode cL_law 84 = .ok (.iconst 1, 1) := by decide +kernel
theorem dL_law_85 : decode cL_law 85 = .ok (.goto 4, 3) := by decide +kernel
theorem dL_law_88 : decode cL_law 88 = .ok (.iconst 0, 1) := by decide +kernel
theorem dL_law_89 : decode cL_law 89 = .ok (.istore_n 3, 1) := by decide +kernel
theorem dL_law_90 : decode cL_law 90 = .ok (.iinc 4 1, 3) := by decide +kernel
theorem dL_law_93 : decode cL_law 93 = .ok (.goto (-58), 3) := by decide +kernel
theorem dL_law_96 : decode cL_law 96 = .ok (.iload_n 3, 1) := by decide +kernel
theorem dL_law_97 : decode cL_law 97 = .ok (.ifCond .eq 28, 3) := by decide +kernel
theorem dL_law_100 : decode cL_law 100 = .ok (.aload_n 1, 1) := by decide +kernel
theorem dL_law_101 : decode cL_law 101 = .ok (.invokestatic 104, 3) := by decide +kernel
theorem dL_law_104 : decode cL_law 104 = .ok (.ifCond .eq 21, 3) := by decide +kernel
theorem dL_law_107 : decode cL_law 107 = .ok (.aload_n 1, 1) := by decide +kernel
theorem dL_law_108 : decode cL_law 108 = .ok (.aload_n 2, 1) := by decide +kernel
theorem dL_law_109 : decode cL_law 109 = .ok (.aload_n 0, 1) := by decide +kernel
theorem dL_law_110 : decode cL_law 110 = .ok (.bipush 54, 2) := by decide +kernel
theorem dL_law_112 : decode cL_law 112 = .ok (.invokestatic 97, 3) := by decide +kernel
theorem dL_law_115 : decode cL_law 115 = .ok (.invokestatic 108, 3) := by decide +kernel
theorem dL_law_118 : decode cL_law 118 = .ok (.ifCond .eq 7, 3) := by decide +kernel
theorem dL_law_121 : decode cL_law 121 = .ok (.iconst 1, 1) := by decide +kernel
theorem dL_law_122 : decode cL_law 122 = .ok (.goto 4, 3) := by decide +kernel
theorem dL_law_125 : decode cL_law 125 = .ok (.iconst 0, 1) := by decide +kernel
theorem dL_law_126 : decode cL_law 126 = .ok (.ireturn, 1) := by decide +kernel
abbrev vwCl : List vw_C := [(RX0, TX0, 16), (RX1, TX1, 8)]
