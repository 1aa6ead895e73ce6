theorem dL_cell_0 : decode cL_cell 0 = .ok (.iload_n 1, 1) := by decide +kernel
theorem dL_cell_1 : decode cL_cell 1 = .ok (.aload_n 0, 1) := by decide +kernel
theorem dL_cell_2 : decode cL_cell 2 = .ok (.arraylength, 1) := by decide +kernel
theorem dL_cell_3 : decode cL_cell 3 = .ok (.if_icmp .ge 9, 3) := by decide +kernel
theorem dL_cell_6 : decode cL_cell 6 = .ok (.aload_n 0, 1) := by decide +kernel
theorem dL_cell_7 : decode cL_cell 7 = .ok (.iload_n 1, 1) := by decide +kernel
theorem dL_cell_8 : decode cL_cell 8 = .ok (.iaload, 1) := by decide +kernel
theorem dL_cell_9 : decode cL_cell 9 = .ok (.goto 11, 3) := by decide +kernel
theorem dL_cell_12 : decode cL_cell 12 = .ok (.ldc 7, 2) := by decide +kernel
theorem dL_cell_14 : decode cL_cell 14 = .ok (.iload_n 1, 1) := by decide +kernel
theorem dL_cell_15 : decode cL_cell 15 = .ok (.sipush 1483, 3) := by decide +kernel
theorem dL_cell_18 : decode cL_cell 18 = .ok (.iadd, 1) := by decide +kernel
theorem dL_cell_19 : decode cL_cell 19 = .ok (.imul, 1) := by decide +kernel
theorem dL_cell_20 : decode cL_cell 20 = .ok (.ireturn, 1) := by decide +kernel
theorem dL_up_0 : decode cL_up 0 = .ok (.iload_n 0, 1) := by decide +kernel
theorem dL_up_1 : decode cL_up 1 = .ok (.ldc 8, 2) := by decide +kernel
theorem dL_up_3 : decode cL_up 3 = .ok (.iand, 1) := by decide +kernel
theorem dL_up_4 : decode cL_up 4 = .ok (.iload_n 1, 1) := by decide +kernel
theorem dL_up_5 : decode cL_up 5 = .ok (.irem, 1) := by decide +kernel
theorem dL_up_6 : decode cL_up 6 = .ok (.ireturn, 1) := by decide +kernel
set_option maxRecDepth 20000 in
theorem ggL_here_L_up : GoodIn wsL_here wsL_up := goodIn_r _ [4, 5] (by decide +kernel) (by decide +kernel)
set_option maxRecDepth 20000 in
theorem gL_here_L_up : GoodIn wsL_here (va_wsS RL 9 yL_up wsL_up) := goodIn_app (goodIn_of _ (by decide +kernel)) ggL_here_L_up
theorem dL_here_0 : decode cL_here 0 = .ok (.iload_n 0, 1) := by decide +kernel
theorem dL_here_1 : decode cL_here 1 = .ok (.tableswitch 77 0 6 #[43, 46, 49, 65, 68, 71, 74], 43) := by decide +kernel
theorem dL_here_44 : decode cL_here 44 = .ok (.bipush 104, 2) := by decide +kernel
theorem dL_here_46 : decode cL_here 46 = .ok (.ireturn, 1) := by decide +kernel
theorem dL_here_47 : decode cL_here 47 = .ok (.bipush 98, 2) := by decide +kernel
theorem dL_here_49 : decode cL_here 49 = .ok (.ireturn, 1) := by decide +kernel
theorem dL_here_50 : decode cL_here 50 = .ok (.iload_n 1, 1) := by decide +kernel
theorem dL_here_51 : decode cL_here 51 = .ok (.iconst 2, 1) := by decide +kernel
theorem dL_here_52 : decode cL_here 52 = .ok (.invokestatic 9, 3) := by decide +kernel
theorem dL_here_55 : decode cL_here 55 = .ok (.ifCond .ne 8, 3) := by decide +kernel
theorem dL_here_58 : decode cL_here 58 = .ok (.bipush 99, 2) := by decide +kernel
theorem dL_here_60 : decode cL_here 60 = .ok (.goto 5, 3) := by decide +kernel
theorem dL_here_63 : decode cL_here 63 = .ok (.bipush 115, 2) := by decide +kernel
theorem dL_here_65 : decode cL_here 65 = .ok (.ireturn, 1) := by decide +kernel
theorem dL_here_66 : decode cL_here 66 = .ok (.bipush 100, 2) := by decide +kernel
theorem dL_here_68 : decode cL_here 68 = .ok (.ireturn, 1) := by decide +kernel
theorem dL_here_69 : decode cL_here 69 = .ok (.bipush 102, 2) := by decide +kernel
theorem dL_here_71 : decode cL_here 71 = .ok (.ireturn, 1) := by decide +kernel
theorem dL_here_72 : decode cL_here 72 = .ok (.bipush 108, 2) := by decide +kernel
theorem dL_here_74 : decode cL_here 74 = .ok (.ireturn, 1) := by decide +kernel
theorem dL_here_75 : decode cL_here 75 = .ok (.bipush 109, 2) := by decide +kernel
theorem dL_here_77 : decode cL_here 77 = .ok (.ireturn, 1) := by decide +kernel
theorem dL_here_78 : decode cL_here 78 = .ok (.iload_n 1, 1) := by decide +kernel
theorem dL_here_79 : decode cL_here 79 = .ok (.iconst 2, 1) := by decide +kernel
theorem dL_here_80 : decode cL_here 80 = .ok (.invokestatic 9, 3) := by decide +kernel
theorem dL_here_83 : decode cL_here 83 = .ok (.ifCond .ne 8, 3) := by decide +kernel
theorem dL_here_86 : decode cL_here 86 = .ok (.bipush 97, 2) := by decide +kernel
theorem dL_here_88 : decode cL_here 88 = .ok (.goto 5, 3) := by decide +kernel
theorem dL_here_91 : decode cL_here 91 = .ok (.bipush 105, 2) := by decide +kernel
theorem dL_here_93 : decode cL_here 93 = .ok (.ireturn, 1) := by decide +kernel
set_option maxRecDepth 20000 in
theorem ggL_there_L_up : GoodIn wsL_there wsL_up := goodIn_r _ [4, 5] (by decide +kernel) (by decide +kernel)
set_option maxRecDepth 20000 in
theorem gL_there_L_up : GoodIn wsL_there (va_wsS RL 9 yL_up wsL_up) := goodIn_app (goodIn_of _ (by decide +kernel)) ggL_there_L_up
theorem dL_there_0 : decode cL_there 0 = .ok (.iload_n 0, 1) := by decide +kernel
theorem dL_there_1 : decode cL_there 1 = .ok (.tableswitch 104 0 6 #[43, 46, 49, 79, 82, 98, 101], 43) := by decide +kernel
theorem dL_there_44 : decode cL_there 44 = .ok (.bipush 121, 2) := by decide +kernel
theorem dL_there_46 : decode cL_there 46 = .ok (.ireturn, 1) := by decide +kernel
theorem dL_there_47 : decode cL_there 47 = .ok (.bipush 112, 2) := by decide +kernel
theorem dL_there_49 : decode cL_there 49 = .ok (.ireturn, 1) := by decide +kernel
theorem dL_there_50 : decode cL_there 50 = .ok (.iload_n 1, 1) := by decide +kernel
theorem dL_there_51 : decode cL_there 51 = .ok (.iconst 3, 1) := by decide +kernel
theorem dL_there_52 : decode cL_there 52 = .ok (.invokestatic 9, 3) := by decide +kernel
theorem dL_there_55 : decode cL_there 55 = .ok (.ifCond .ne 8, 3) := by decide +kernel
theorem dL_there_58 : decode cL_there 58 = .ok (.bipush 113, 2) := by decide +kernel
theorem dL_there_60 : decode cL_there 60 = .ok (.goto 19, 3) := by decide +kernel
theorem dL_there_63 : decode cL_there 63 = .ok (.iload_n 1, 1) := by decide +kernel
theorem dL_there_64 : decode cL_there 64 = .ok (.iconst 3, 1) := by decide +kernel
theorem dL_there_65 : decode cL_there 65 = .ok (.invokestatic 9, 3) := by decide +kernel
theorem dL_there_68 : decode cL_there 68 = .ok (.iconst 1, 1) := by decide +kernel
theorem dL_there_69 : decode cL_there 69 = .ok (.if_icmp .ne 8, 3) := by decide +kernel
theorem dL_there_72 : decode cL_there 72 = .ok (.bipush 120, 2) := by decide +kernel
theorem dL_there_74 : decode cL_there 74 = .ok (.goto 5, 3) := by decide +kernel
theorem dL_there_77 : decode cL_there 77 = .ok (.bipush 106, 2) := by decide +kernel
theorem dL_there_79 : decode cL_there 79 = .ok (.ireturn, 1) := by decide +kernel
theorem dL_there_80 : decode cL_there 80 = .ok (.bipush 116, 2) := by decide +kernel
theorem dL_there_82 : decode cL_there 82 = .ok (.ireturn, 1) := by decide +kernel
theorem dL_there_83 : decode cL_there 83 = .ok (.iload_n 1, 1) := by decide +kernel
theorem dL_there_84 : decode cL_there 84 = .ok (.iconst 2, 1) := by decide +kernel
theorem dL_there_85 : decode cL_there 85 = .ok (.invokestatic 9, 3) := by decide +kernel
theorem dL_there_88 : decode cL_there 88 = .ok (.ifCond .ne 8, 3) := by decide +kernel
theorem dL_there_91 : decode cL_there 91 = .ok (.bipush 119, 2) := by decide +kernel
theorem dL_there_93 : decode cL_there 93 = .ok (.goto 5, 3) := by decide +kernel
theorem dL_there_96 : decode cL_there 96 = .ok (.bipush 118, 2) := by decide +kernel
theorem dL_there_98 : decode cL_there 98 = .ok (.ireturn, 1) := by decide +kernel
theorem dL_there_99 : decode cL_there 99 = .ok (.bipush 114, 2) := by decide +kernel
theorem dL_there_101 : decode cL_there 101 = .ok (.ireturn, 1) := by decide +kernel
theorem dL_there_102 : decode cL_there 102 = .ok (.bipush 110, 2) := by decide +kernel
theorem dL_there_104 : decode cL_there 104 = .ok (.ireturn, 1) := by decide +kernel
theorem dL_there_105 : decode cL_there 105 = .ok (.iload_n 1, 1) := by decide +kernel
theorem dL_there_106 : decode cL_there 106 = .ok (.iconst 3, 1) := by decide +kernel
theorem dL_there_107 : decode cL_there 107 = .ok (.invokestatic 9, 3) := by decide +kernel
theorem dL_there_110 : decode cL_there 110 = .ok (.ifCond .ne 8, 3) := by decide +kernel
theorem dL_there_113 : decode cL_there 113 = .ok (.bipush 101, 2) := by decide +kernel
theorem dL_there_115 : decode cL_there 115 = .ok (.goto 19, 3) := by decide +kernel
theorem dL_there_118 : decode cL_there 118 = .ok (.iload_n 1, 1) := by decide +kernel
theorem dL_there_119 : decode cL_there 119 = .ok (.iconst 3, 1) := by decide +kernel
theorem dL_there_120 : decode cL_there 120 = .ok (.invokestatic 9, 3) := by decide +kernel
theorem dL_there_123 : decode cL_there 123 = .ok (.iconst 1, 1) := by decide +kernel
theorem dL_there_124 : decode cL_there 124 = .ok (.if_icmp .ne 8, 3) := by decide +kernel
theorem dL_there_127 : decode cL_there 127 = .ok (.bipush 111, 2) := by decide +kernel
theorem dL_there_129 : decode cL_there 129 = .ok (.goto 5, 3) := by decide +kernel
theorem dL_there_132 : decode cL_there 132 = .ok (.bipush 117, 2) := by decide +kernel
theorem dL_there_134 : decode cL_there 134 = .ok (.ireturn, 1) := by decide +kernel
set_option maxRecDepth 20000 in
theorem ggL_isRead_X1_wipe : GoodIn wsL_isRead wsX1_wipe := goodIn_r _ [6, 7, 171, 172, 173, 174, 175, 176, 177, 178] (by decide +kernel) (by decide +kernel)
set_option maxRecDepth 20000 in
theorem gL_isRead_X1_wipe : GoodIn wsL_isRead (wsV RL 15 RX1 yX1_wipe wsX1_wipe) := goodIn_app (goodIn_of _ (by decide +kernel)) ggL_isRead_X1_wipe
set_option maxRecDepth 20000 in
theorem ggL_isRead_X1_count : GoodIn wsL_isRead wsX1_count := goodIn_r _ [11, 12, 13, 14, 15, 16, 17, 18, 7, 19, 20, 21, 22, 23, 24, 25, 26, 27, 28, 29, 30, 31, 32, 33, 34, 35, 36, 37, 38, 39, 40, 41, 42, 43, 44, 45, 5, 46, 47, 48, 49, 50, 51, 52, 53, 54, 55, 56, 57, 58, 59, 60, 61, 62, 63, 64, 65, 171, 172, 173, 174, 175, 176, 177, 178, 179, 180, 181, 182, 183, 184, 185, 186, 187, 188, 189, 190, 191, 192, 193, 194] (by decide +kernel) (by decide +kernel)
set_option maxRecDepth 20000 in
theorem gL_isRead_X1_count : GoodIn wsL_isRead (wsV RL 21 RX1 yX1_count wsX1_count) := goodIn_app (goodIn_of _ (by decide +kernel)) ggL_isRead_X1_count
set_option maxRecDepth 20000 in
theorem ggL_isRead_L_up : GoodIn wsL_isRead wsL_up := goodIn_r _ [69, 70] (by decide +kernel) (by decide +kernel)
set_option maxRecDepth 20000 in
theorem gL_isRead_L_up : GoodIn wsL_isRead (va_wsS RL 9 yL_up wsL_up) := goodIn_app (goodIn_of _ (by decide +kernel)) ggL_isRead_L_up
set_option maxRecDepth 20000 in
theorem ggL_isRead_X1_put : GoodIn wsL_isRead wsX1_put := goodIn_r _ [74, 7, 75, 76, 5, 77, 78, 79, 80, 81, 82, 83, 84, 85, 86, 171, 172, 173, 174, 175, 176, 177, 178] (by decide +kernel) (by decide +kernel)
set_option maxRecDepth 20000 in
theorem gL_isRead_X1_put : GoodIn wsL_isRead (wsV RL 27 RX1 yX1_put wsX1_put) := goodIn_app (goodIn_of _ (by decide +kernel)) ggL_isRead_X1_put
set_option maxRecDepth 20000 in
theorem ggL_isRead_L_here : GoodIn wsL_isRead wsL_here := goodIn_r _ [89, 66, 67, 68, 69, 70] (by decide +kernel) (by decide +kernel)
set_option maxRecDepth 20000 in
theorem gL_isRead_L_here : GoodIn wsL_isRead (va_wsS RL 31 yL_here wsL_here) := goodIn_app (goodIn_of _ (by decide +kernel)) ggL_isRead_L_here
set_option maxRecDepth 20000 in
theorem ggL_isRead_L_there : GoodIn wsL_isRead wsL_there := goodIn_r _ [92, 66, 67, 68, 69, 70] (by decide +kernel) (by decide +kernel)
set_option maxRecDepth 20000 in
theorem gL_isRead_L_there : GoodIn wsL_isRead (va_wsS RL 34 yL_there wsL_there) := goodIn_app (goodIn_of _ (by decide +kernel)) ggL_isRead_L_there
set_option maxRecDepth 20000 in
theorem ggL_isRead_X1_read : GoodIn wsL_isRead wsX1_read := goodIn_r _ [96, 12, 15, 7, 86, 97, 98, 99, 5, 100, 101, 102, 103, 104, 105, 106, 107, 108, 109, 110, 111, 112, 113, 114, 19, 115, 116, 117, 118, 13, 14, 119, 120, 121, 122, 123, 124, 125, 126, 127, 128, 129, 130, 131, 18, 132, 16, 17, 133, 134, 135, 136, 137, 138, 139, 140, 141, 142, 23, 143, 25, 144, 145, 146, 147, 34, 148, 61, 149, 150, 151, 152, 153, 154, 155, 156, 171, 172, 173, 174, 175, 176, 177, 178, 179, 180, 181, 182, 183, 184, 185, 186, 187, 188, 189, 190, 191, 192, 193, 194] (by decide +kernel) (by decide +kernel)
set_option maxRecDepth 20000 in
theorem gL_isRead_X1_read : GoodIn wsL_isRead (wsV RL 37 RX1 yX1_read wsX1_read) := goodIn_app (goodIn_of _ (by decide +kernel)) ggL_isRead_X1_read
set_option maxRecDepth 20000 in
theorem ggL_isRead_X1_name : GoodIn wsL_isRead wsX1_name := goodIn_r _ [160, 12, 130, 129, 128, 18, 161, 63, 64, 23, 65, 25, 162, 31, 32, 33, 34, 35, 36, 37, 38, 39, 163, 164, 165, 166, 167, 168, 169, 170, 147, 26, 27, 28, 29, 30, 171, 172, 173, 174, 175, 176, 177, 178, 179, 180, 181, 182, 183, 184, 185, 186, 187, 188, 189, 190, 191, 192, 193, 194] (by decide +kernel) (by decide +kernel)
set_option maxRecDepth 20000 in
theorem gL_isRead_X1_name : GoodIn wsL_isRead (wsV RL 40 RX1 yX1_name wsX1_name) := goodIn_app (goodIn_of _ (by decide +kernel)) ggL_isRead_X1_name
theorem dL_isRead_0 : decode cL_isRead 0 = .ok (.aload_n 0, 1) := by decide +kernel
theorem dL_isRead_1 : decode cL_isRead 1 = .ok (.invokevirtual 15, 3) := by decide +kernel
theorem dL_isRead_4 : decode cL_isRead 4 = .ok (.ifCond .lt 7, 3) := by decide +kernel
theorem dL_isRead_7 : decode cL_isRead 7 = .ok (.iconst 1, 1) := by decide +kernel
theorem dL_isRead_8 : decode cL_isRead 8 = .ok (.goto 4, 3) := by decide +kernel
theorem dL_isRead_11 : decode cL_isRead 11 = .ok (.iconst 0, 1) := by decide +kernel
theorem dL_isRead_12 : decode cL_isRead 12 = .ok (.istore 4, 2) := by decide +kernel
theorem dL_isRead_14 : decode cL_isRead 14 = .ok (.aload_n 0, 1) := by decide +kernel
theorem dL_isRead_15 : decode cL_isRead 15 = .ok (.iconst 5, 1) := by decide +kernel
theorem dL_isRead_16 : decode cL_isRead 16 = .ok (.invokevirtual 21, 3) := by decide +kernel
theorem dL_isRead_19 : decode cL_isRead 19 = .ok (.istore 5, 2) := by decide +kernel
theorem dL_isRead_21 : decode cL_isRead 21 = .ok (.iconst 1, 1) := by decide +kernel
theorem dL_isRead_22 : decode cL_isRead 22 = .ok (.iload_n 2, 1) := by decide +kernel
theorem dL_isRead_23 : decode cL_isRead 23 = .ok (.iconst 3, 1) := by decide +kernel
theorem dL_isRead_24 : decode cL_isRead 24 = .ok (.invokestatic 9, 3) := by decide +kernel
theorem dL_isRead_27 : decode cL_isRead 27 = .ok (.iadd, 1) := by decide +kernel
theorem dL_isRead_28 : decode cL_isRead 28 = .ok (.istore 6, 2) := by decide +kernel
theorem dL_isRead_30 : decode cL_isRead 30 = .ok (.iload 5, 2) := by decide +kernel
theorem dL_isRead_32 : decode cL_isRead 32 = .ok (.iload 6, 2) := by decide +kernel
theorem dL_isRead_34 : decode cL_isRead 34 = .ok (.iadd, 1) := by decide +kernel
theorem dL_isRead_35 : decode cL_isRead 35 = .ok (.bipush 20, 2) := by decide +kernel
theorem dL_isRead_37 : decode cL_isRead 37 = .ok (.if_icmp .le 25, 3) := by decide +kernel
theorem dL_isRead_40 : decode cL_isRead 40 = .ok (.iload 4, 2) := by decide +kernel
theorem dL_isRead_42 : decode cL_isRead 42 = .ok (.ifCond .eq 18, 3) := by decide +kernel
theorem dL_isRead_45 : decode cL_isRead 45 = .ok (.aload_n 0, 1) := by decide +kernel
theorem dL_isRead_46 : decode cL_isRead 46 = .ok (.ldc2_w 25, 3) := by decide +kernel
theorem dL_isRead_49 : decode cL_isRead 49 = .ok (.invokevirtual 27, 3) := by decide +kernel
theorem dL_isRead_52 : decode cL_isRead 52 = .ok (.iconst 1, 1) := by decide +kernel
theorem dL_isRead_53 : decode cL_isRead 53 = .ok (.if_icmp .ne 7, 3) := by decide +kernel
theorem dL_isRead_56 : decode cL_isRead 56 = .ok (.iconst 1, 1) := by decide +kernel
theorem dL_isRead_57 : decode cL_isRead 57 = .ok (.goto 4, 3) := by decide +kernel
theorem dL_isRead_60 : decode cL_isRead 60 = .ok (.iconst 0, 1) := by decide +kernel
theorem dL_isRead_61 : decode cL_isRead 61 = .ok (.ireturn, 1) := by decide +kernel
theorem dL_isRead_62 : decode cL_isRead 62 = .ok (.iconst 0, 1) := by decide +kernel
theorem dL_isRead_63 : decode cL_isRead 63 = .ok (.istore 7, 2) := by decide +kernel
theorem dL_isRead_65 : decode cL_isRead 65 = .ok (.iload 7, 2) := by decide +kernel
theorem dL_isRead_67 : decode cL_isRead 67 = .ok (.iload 6, 2) := by decide +kernel
theorem dL_isRead_69 : decode cL_isRead 69 = .ok (.if_icmp .ge 262, 3) := by decide +kernel
theorem dL_isRead_72 : decode cL_isRead 72 = .ok (.iload_n 2, 1) := by decide +kernel
theorem dL_isRead_73 : decode cL_isRead 73 = .ok (.iconst 2, 1) := by decide +kernel
theorem dL_isRead_74 : decode cL_isRead 74 = .ok (.iload 7, 2) := by decide +kernel
theorem dL_isRead_76 : decode cL_isRead 76 = .ok (.imul, 1) := by decide +kernel
theorem dL_isRead_77 : decode cL_isRead 77 = .ok (.ishr, 1) := by decide +kernel
theorem dL_isRead_78 : decode cL_isRead 78 = .ok (.iload_n 3, 1) := by decide +kernel
theorem dL_isRead_79 : decode cL_isRead 79 = .ok (.iconst 3, 1) := by decide +kernel
theorem dL_isRead_80 : decode cL_isRead 80 = .ok (.iload 7, 2) := by decide +kernel
theorem dL_isRead_82 : decode cL_isRead 82 = .ok (.imul, 1) := by decide +kernel
theorem dL_isRead_83 : decode cL_isRead 83 = .ok (.ishr, 1) := by decide +kernel
theorem dL_isRead_84 : decode cL_isRead 84 = .ok (.ixor, 1) := by decide +kernel
theorem dL_isRead_85 : decode cL_isRead 85 = .ok (.istore 8, 2) := by decide +kernel
theorem dL_isRead_87 : decode cL_isRead 87 = .ok (.iconst 2, 1) := by decide +kernel
theorem dL_isRead_88 : decode cL_isRead 88 = .ok (.iload 8, 2) := by decide +kernel
theorem dL_isRead_90 : decode cL_isRead 90 = .ok (.iload 8, 2) := by decide +kernel
theorem dL_isRead_92 : decode cL_isRead 92 = .ok (.bipush 9, 2) := by decide +kernel
theorem dL_isRead_94 : decode cL_isRead 94 = .ok (.ishr, 1) := by decide +kernel
theorem dL_isRead_95 : decode cL_isRead 95 = .ok (.iconst 4, 1) := by decide +kernel
theorem dL_isRead_96 : decode cL_isRead 96 = .ok (.invokestatic 9, 3) := by decide +kernel
theorem dL_isRead_99 : decode cL_isRead 99 = .ok (.ifCond .ne 8, 3) := by decide +kernel
theorem dL_isRead_102 : decode cL_isRead 102 = .ok (.bipush 8, 2) := by decide +kernel
theorem dL_isRead_104 : decode cL_isRead 104 = .ok (.goto 4, 3) := by decide +kernel
theorem dL_isRead_107 : decode cL_isRead 107 = .ok (.iconst 3, 1) := by decide +kernel
theorem dL_isRead_108 : decode cL_isRead 108 = .ok (.invokestatic 9, 3) := by decide +kernel
theorem dL_isRead_111 : decode cL_isRead 111 = .ok (.iadd, 1) := by decide +kernel
theorem dL_isRead_112 : decode cL_isRead 112 = .ok (.istore 9, 2) := by decide +kernel
theorem dL_isRead_114 : decode cL_isRead 114 = .ok (.iload 8, 2) := by decide +kernel
theorem dL_isRead_116 : decode cL_isRead 116 = .ok (.iconst 5, 1) := by decide +kernel
theorem dL_isRead_117 : decode cL_isRead 117 = .ok (.ishr, 1) := by decide +kernel
theorem dL_isRead_118 : decode cL_isRead 118 = .ok (.bipush 10, 2) := by decide +kernel
theorem dL_isRead_120 : decode cL_isRead 120 = .ok (.invokestatic 9, 3) := by decide +kernel
theorem dL_isRead_123 : decode cL_isRead 123 = .ok (.istore 10, 2) := by decide +kernel
theorem dL_isRead_125 : decode cL_isRead 125 = .ok (.iload 4, 2) := by decide +kernel
theorem dL_isRead_127 : decode cL_isRead 127 = .ok (.ifCond .eq 14, 3) := by decide +kernel
theorem dL_isRead_130 : decode cL_isRead 130 = .ok (.aload_n 1, 1) := by decide +kernel
theorem dL_isRead_131 : decode cL_isRead 131 = .ok (.invokevirtual 15, 3) := by decide +kernel
theorem dL_isRead_134 : decode cL_isRead 134 = .ok (.ifCond .lt 7, 3) := by decide +kernel
theorem dL_isRead_137 : decode cL_isRead 137 = .ok (.iconst 1, 1) := by decide +kernel
theorem dL_isRead_138 : decode cL_isRead 138 = .ok (.goto 4, 3) := by decide +kernel
theorem dL_isRead_141 : decode cL_isRead 141 = .ok (.iconst 0, 1) := by decide +kernel
theorem dL_isRead_142 : decode cL_isRead 142 = .ok (.istore 4, 2) := by decide +kernel
theorem dL_isRead_144 : decode cL_isRead 144 = .ok (.iconst 0, 1) := by decide +kernel
theorem dL_isRead_145 : decode cL_isRead 145 = .ok (.istore 11, 2) := by decide +kernel
theorem dL_isRead_147 : decode cL_isRead 147 = .ok (.iload 11, 2) := by decide +kernel
theorem dL_isRead_149 : decode cL_isRead 149 = .ok (.iload 9, 2) := by decide +kernel
theorem dL_isRead_151 : decode cL_isRead 151 = .ok (.if_icmp .ge 92, 3) := by decide +kernel
theorem dL_isRead_154 : decode cL_isRead 154 = .ok (.iload 8, 2) := by decide +kernel
theorem dL_isRead_156 : decode cL_isRead 156 = .ok (.iload 11, 2) := by decide +kernel
theorem dL_isRead_158 : decode cL_isRead 158 = .ok (.ishr, 1) := by decide +kernel
theorem dL_isRead_159 : decode cL_isRead 159 = .ok (.iconst 5, 1) := by decide +kernel
theorem dL_isRead_160 : decode cL_isRead 160 = .ok (.invokestatic 9, 3) := by decide +kernel
theorem dL_isRead_163 : decode cL_isRead 163 = .ok (.ifCond .ne 8, 3) := by decide +kernel
theorem dL_isRead_166 : decode cL_isRead 166 = .ok (.bipush 7, 2) := by decide +kernel
theorem dL_isRead_168 : decode cL_isRead 168 = .ok (.goto 13, 3) := by decide +kernel
theorem dL_isRead_171 : decode cL_isRead 171 = .ok (.iload 8, 2) := by decide +kernel
theorem dL_isRead_173 : decode cL_isRead 173 = .ok (.iload 11, 2) := by decide +kernel
theorem dL_isRead_175 : decode cL_isRead 175 = .ok (.ishr, 1) := by decide +kernel
theorem dL_isRead_176 : decode cL_isRead 176 = .ok (.bipush 8, 2) := by decide +kernel
theorem dL_isRead_178 : decode cL_isRead 178 = .ok (.invokestatic 9, 3) := by decide +kernel
theorem dL_isRead_181 : decode cL_isRead 181 = .ok (.istore 12, 2) := by decide +kernel
theorem dL_isRead_183 : decode cL_isRead 183 = .ok (.iload 4, 2) := by decide +kernel
theorem dL_isRead_185 : decode cL_isRead 185 = .ok (.ifCond .eq 49, 3) := by decide +kernel
theorem dL_isRead_188 : decode cL_isRead 188 = .ok (.aload_n 0, 1) := by decide +kernel
theorem dL_isRead_189 : decode cL_isRead 189 = .ok (.iload 12, 2) := by decide +kernel
theorem dL_isRead_191 : decode cL_isRead 191 = .ok (.iload 8, 2) := by decide +kernel
theorem dL_isRead_193 : decode cL_isRead 193 = .ok (.iload 11, 2) := by decide +kernel
theorem dL_isRead_195 : decode cL_isRead 195 = .ok (.ishr, 1) := by decide +kernel
theorem dL_isRead_196 : decode cL_isRead 196 = .ok (.invokestatic 31, 3) := by decide +kernel
theorem dL_isRead_199 : decode cL_isRead 199 = .ok (.i2l, 1) := by decide +kernel
theorem dL_isRead_200 : decode cL_isRead 200 = .ok (.invokevirtual 27, 3) := by decide +kernel
theorem dL_isRead_203 : decode cL_isRead 203 = .ok (.ifCond .le 31, 3) := by decide +kernel
theorem dL_isRead_206 : decode cL_isRead 206 = .ok (.aload_n 1, 1) := by decide +kernel
