theorem dX2_init_0 : decode cX2_init 0 = .ok (.aload_n 0, 1) := by decide +kernel
theorem dX2_init_1 : decode cX2_init 1 = .ok (.invokespecial 1, 3) := by decide +kernel
theorem dX2_init_4 : decode cX2_init 4 = .ok (.aload_n 0, 1) := by decide +kernel
theorem dX2_init_5 : decode cX2_init 5 = .ok (.sipush 322, 3) := by decide +kernel
theorem dX2_init_8 : decode cX2_init 8 = .ok (.newarray .int, 2) := by decide +kernel
theorem dX2_init_10 : decode cX2_init 10 = .ok (.putfield 7, 3) := by decide +kernel
theorem dX2_init_13 : decode cX2_init 13 = .ok (.aload_n 0, 1) := by decide +kernel
theorem dX2_init_14 : decode cX2_init 14 = .ok (.sipush 322, 3) := by decide +kernel
theorem dX2_init_17 : decode cX2_init 17 = .ok (.newarray .int, 2) := by decide +kernel
theorem dX2_init_19 : decode cX2_init 19 = .ok (.putfield 13, 3) := by decide +kernel
theorem dX2_init_22 : decode cX2_init 22 = .ok (.aload_n 0, 1) := by decide +kernel
theorem dX2_init_23 : decode cX2_init 23 = .ok (.sipush 1932, 3) := by decide +kernel
theorem dX2_init_26 : decode cX2_init 26 = .ok (.newarray .int, 2) := by decide +kernel
theorem dX2_init_28 : decode cX2_init 28 = .ok (.putfield 16, 3) := by decide +kernel
theorem dX2_init_31 : decode cX2_init 31 = .ok (.aload_n 0, 1) := by decide +kernel
theorem dX2_init_32 : decode cX2_init 32 = .ok (.sipush 644, 3) := by decide +kernel
theorem dX2_init_35 : decode cX2_init 35 = .ok (.newarray .int, 2) := by decide +kernel
theorem dX2_init_37 : decode cX2_init 37 = .ok (.putfield 19, 3) := by decide +kernel
theorem dX2_init_40 : decode cX2_init 40 = .ok (.aload_n 0, 1) := by decide +kernel
theorem dX2_init_41 : decode cX2_init 41 = .ok (.iconst 2, 1) := by decide +kernel
theorem dX2_init_42 : decode cX2_init 42 = .ok (.newarray .int, 2) := by decide +kernel
theorem dX2_init_44 : decode cX2_init 44 = .ok (.putfield 22, 3) := by decide +kernel
theorem dX2_init_47 : decode cX2_init 47 = .ok (.aload_n 0, 1) := by decide +kernel
theorem dX2_init_48 : decode cX2_init 48 = .ok (.bipush 60, 2) := by decide +kernel
theorem dX2_init_50 : decode cX2_init 50 = .ok (.newarray .int, 2) := by decide +kernel
theorem dX2_init_52 : decode cX2_init 52 = .ok (.putfield 25, 3) := by decide +kernel
theorem dX2_init_55 : decode cX2_init 55 = .ok (.aload_n 0, 1) := by decide +kernel
theorem dX2_init_56 : decode cX2_init 56 = .ok (.bipush 30, 2) := by decide +kernel
theorem dX2_init_58 : decode cX2_init 58 = .ok (.newarray .int, 2) := by decide +kernel
theorem dX2_init_60 : decode cX2_init 60 = .ok (.putfield 28, 3) := by decide +kernel
theorem dX2_init_63 : decode cX2_init 63 = .ok (.aload_n 0, 1) := by decide +kernel
theorem dX2_init_64 : decode cX2_init 64 = .ok (.bipush 30, 2) := by decide +kernel
theorem dX2_init_66 : decode cX2_init 66 = .ok (.newarray .int, 2) := by decide +kernel
theorem dX2_init_68 : decode cX2_init 68 = .ok (.putfield 31, 3) := by decide +kernel
theorem dX2_init_71 : decode cX2_init 71 = .ok (.aload_n 0, 1) := by decide +kernel
theorem dX2_init_72 : decode cX2_init 72 = .ok (.bipush 30, 2) := by decide +kernel
theorem dX2_init_74 : decode cX2_init 74 = .ok (.newarray .int, 2) := by decide +kernel
theorem dX2_init_76 : decode cX2_init 76 = .ok (.putfield 34, 3) := by decide +kernel
theorem dX2_init_79 : decode cX2_init 79 = .ok (.aload_n 0, 1) := by decide +kernel
theorem dX2_init_80 : decode cX2_init 80 = .ok (.getfield 7, 3) := by decide +kernel
theorem dX2_init_83 : decode cX2_init 83 = .ok (.iconst 0, 1) := by decide +kernel
theorem dX2_init_84 : decode cX2_init 84 = .ok (.iconst 3, 1) := by decide +kernel
theorem dX2_init_85 : decode cX2_init 85 = .ok (.iastore, 1) := by decide +kernel
theorem dX2_init_86 : decode cX2_init 86 = .ok (.aload_n 0, 1) := by decide +kernel
theorem dX2_init_87 : decode cX2_init 87 = .ok (.getfield 7, 3) := by decide +kernel
theorem dX2_init_90 : decode cX2_init 90 = .ok (.iconst 1, 1) := by decide +kernel
theorem dX2_init_91 : decode cX2_init 91 = .ok (.iconst 2, 1) := by decide +kernel
theorem dX2_init_92 : decode cX2_init 92 = .ok (.iastore, 1) := by decide +kernel
theorem dX2_init_93 : decode cX2_init 93 = .ok (.aload_n 0, 1) := by decide +kernel
theorem dX2_init_94 : decode cX2_init 94 = .ok (.getfield 7, 3) := by decide +kernel
theorem dX2_init_97 : decode cX2_init 97 = .ok (.iconst 2, 1) := by decide +kernel
theorem dX2_init_98 : decode cX2_init 98 = .ok (.iconst 2, 1) := by decide +kernel
theorem dX2_init_99 : decode cX2_init 99 = .ok (.iastore, 1) := by decide +kernel
theorem dX2_init_100 : decode cX2_init 100 = .ok (.aload_n 0, 1) := by decide +kernel
theorem dX2_init_101 : decode cX2_init 101 = .ok (.getfield 7, 3) := by decide +kernel
theorem dX2_init_104 : decode cX2_init 104 = .ok (.iconst 3, 1) := by decide +kernel
theorem dX2_init_105 : decode cX2_init 105 = .ok (.bipush 10, 2) := by decide +kernel
theorem dX2_init_107 : decode cX2_init 107 = .ok (.iastore, 1) := by decide +kernel
theorem dX2_init_108 : decode cX2_init 108 = .ok (.iconst 0, 1) := by decide +kernel
theorem dX2_init_109 : decode cX2_init 109 = .ok (.istore_n 1, 1) := by decide +kernel
theorem dX2_init_110 : decode cX2_init 110 = .ok (.iload_n 1, 1) := by decide +kernel
theorem dX2_init_111 : decode cX2_init 111 = .ok (.bipush 12, 2) := by decide +kernel
theorem dX2_init_113 : decode cX2_init 113 = .ok (.if_icmp .ge 45, 3) := by decide +kernel
theorem dX2_init_116 : decode cX2_init 116 = .ok (.aload_n 0, 1) := by decide +kernel
theorem dX2_init_117 : decode cX2_init 117 = .ok (.getfield 7, 3) := by decide +kernel
theorem dX2_init_120 : decode cX2_init 120 = .ok (.sipush 249, 3) := by decide +kernel
theorem dX2_init_123 : decode cX2_init 123 = .ok (.iload_n 1, 1) := by decide +kernel
theorem dX2_init_124 : decode cX2_init 124 = .ok (.iadd, 1) := by decide +kernel
theorem dX2_init_125 : decode cX2_init 125 = .ok (.bipush (-6), 2) := by decide +kernel
theorem dX2_init_127 : decode cX2_init 127 = .ok (.iastore, 1) := by decide +kernel
theorem dX2_init_128 : decode cX2_init 128 = .ok (.aload_n 0, 1) := by decide +kernel
theorem dX2_init_129 : decode cX2_init 129 = .ok (.getfield 7, 3) := by decide +kernel
theorem dX2_init_132 : decode cX2_init 132 = .ok (.sipush 285, 3) := by decide +kernel
theorem dX2_init_135 : decode cX2_init 135 = .ok (.iload_n 1, 1) := by decide +kernel
theorem dX2_init_136 : decode cX2_init 136 = .ok (.iadd, 1) := by decide +kernel
theorem dX2_init_137 : decode cX2_init 137 = .ok (.bipush (-6), 2) := by decide +kernel
theorem dX2_init_139 : decode cX2_init 139 = .ok (.iastore, 1) := by decide +kernel
theorem dX2_init_140 : decode cX2_init 140 = .ok (.aload_n 0, 1) := by decide +kernel
theorem dX2_init_141 : decode cX2_init 141 = .ok (.getfield 7, 3) := by decide +kernel
theorem dX2_init_144 : decode cX2_init 144 = .ok (.sipush 309, 3) := by decide +kernel
theorem dX2_init_147 : decode cX2_init 147 = .ok (.iload_n 1, 1) := by decide +kernel
theorem dX2_init_148 : decode cX2_init 148 = .ok (.iadd, 1) := by decide +kernel
theorem dX2_init_149 : decode cX2_init 149 = .ok (.bipush (-6), 2) := by decide +kernel
theorem dX2_init_151 : decode cX2_init 151 = .ok (.iastore, 1) := by decide +kernel
theorem dX2_init_152 : decode cX2_init 152 = .ok (.iinc 1 1, 3) := by decide +kernel
theorem dX2_init_155 : decode cX2_init 155 = .ok (.goto (-45), 3) := by decide +kernel
theorem dX2_init_158 : decode cX2_init 158 = .ok (.return_, 1) := by decide +kernel
theorem dX2_in_0 : decode cX2_in 0 = .ok (.lload_n 0, 1) := by decide +kernel
theorem dX2_in_1 : decode cX2_in 1 = .ok (.lload_n 2, 1) := by decide +kernel
theorem dX2_in_2 : decode cX2_in 2 = .ok (.lcmp, 1) := by decide +kernel
theorem dX2_in_3 : decode cX2_in 3 = .ok (.ifCond .lt 14, 3) := by decide +kernel
theorem dX2_in_6 : decode cX2_in 6 = .ok (.lload_n 0, 1) := by decide +kernel
theorem dX2_in_7 : decode cX2_in 7 = .ok (.lload 4, 2) := by decide +kernel
theorem dX2_in_9 : decode cX2_in 9 = .ok (.lcmp, 1) := by decide +kernel
theorem dX2_in_10 : decode cX2_in 10 = .ok (.ifCond .gt 7, 3) := by decide +kernel
theorem dX2_in_13 : decode cX2_in 13 = .ok (.iconst 1, 1) := by decide +kernel
theorem dX2_in_14 : decode cX2_in 14 = .ok (.goto 4, 3) := by decide +kernel
theorem dX2_in_17 : decode cX2_in 17 = .ok (.iconst 0, 1) := by decide +kernel
theorem dX2_in_18 : decode cX2_in 18 = .ok (.ireturn, 1) := by decide +kernel
theorem dX2_changes_0 : decode cX2_changes 0 = .ok (.aload_n 0, 1) := by decide +kernel
theorem dX2_changes_1 : decode cX2_changes 1 = .ok (.getfield 37, 3) := by decide +kernel
theorem dX2_changes_4 : decode cX2_changes 4 = .ok (.bipush 6, 2) := by decide +kernel
theorem dX2_changes_6 : decode cX2_changes 6 = .ok (.if_icmp .ne 44, 3) := by decide +kernel
theorem dX2_changes_9 : decode cX2_changes 9 = .ok (.iconst 0, 1) := by decide +kernel
theorem dX2_changes_10 : decode cX2_changes 10 = .ok (.istore_n 1, 1) := by decide +kernel
theorem dX2_changes_11 : decode cX2_changes 11 = .ok (.iload_n 1, 1) := by decide +kernel
theorem dX2_changes_12 : decode cX2_changes 12 = .ok (.sipush 1610, 3) := by decide +kernel
theorem dX2_changes_15 : decode cX2_changes 15 = .ok (.if_icmp .ge 25, 3) := by decide +kernel
theorem dX2_changes_18 : decode cX2_changes 18 = .ok (.aload_n 0, 1) := by decide +kernel
theorem dX2_changes_19 : decode cX2_changes 19 = .ok (.getfield 16, 3) := by decide +kernel
theorem dX2_changes_22 : decode cX2_changes 22 = .ok (.iload_n 1, 1) := by decide +kernel
theorem dX2_changes_23 : decode cX2_changes 23 = .ok (.aload_n 0, 1) := by decide +kernel
theorem dX2_changes_24 : decode cX2_changes 24 = .ok (.getfield 16, 3) := by decide +kernel
theorem dX2_changes_27 : decode cX2_changes 27 = .ok (.iload_n 1, 1) := by decide +kernel
theorem dX2_changes_28 : decode cX2_changes 28 = .ok (.sipush 322, 3) := by decide +kernel
theorem dX2_changes_31 : decode cX2_changes 31 = .ok (.iadd, 1) := by decide +kernel
theorem dX2_changes_32 : decode cX2_changes 32 = .ok (.iaload, 1) := by decide +kernel
theorem dX2_changes_33 : decode cX2_changes 33 = .ok (.iastore, 1) := by decide +kernel
theorem dX2_changes_34 : decode cX2_changes 34 = .ok (.iinc 1 1, 3) := by decide +kernel
theorem dX2_changes_37 : decode cX2_changes 37 = .ok (.goto (-26), 3) := by decide +kernel
theorem dX2_changes_40 : decode cX2_changes 40 = .ok (.aload_n 0, 1) := by decide +kernel
theorem dX2_changes_41 : decode cX2_changes 41 = .ok (.dup, 1) := by decide +kernel
theorem dX2_changes_42 : decode cX2_changes 42 = .ok (.getfield 37, 3) := by decide +kernel
theorem dX2_changes_45 : decode cX2_changes 45 = .ok (.iconst 1, 1) := by decide +kernel
theorem dX2_changes_46 : decode cX2_changes 46 = .ok (.isub, 1) := by decide +kernel
theorem dX2_changes_47 : decode cX2_changes 47 = .ok (.putfield 37, 3) := by decide +kernel
theorem dX2_changes_50 : decode cX2_changes 50 = .ok (.iconst 0, 1) := by decide +kernel
theorem dX2_changes_51 : decode cX2_changes 51 = .ok (.istore_n 1, 1) := by decide +kernel
theorem dX2_changes_52 : decode cX2_changes 52 = .ok (.iload_n 1, 1) := by decide +kernel
theorem dX2_changes_53 : decode cX2_changes 53 = .ok (.sipush 322, 3) := by decide +kernel
theorem dX2_changes_56 : decode cX2_changes 56 = .ok (.if_icmp .ge 30, 3) := by decide +kernel
theorem dX2_changes_59 : decode cX2_changes 59 = .ok (.aload_n 0, 1) := by decide +kernel
theorem dX2_changes_60 : decode cX2_changes 60 = .ok (.getfield 16, 3) := by decide +kernel
theorem dX2_changes_63 : decode cX2_changes 63 = .ok (.sipush 322, 3) := by decide +kernel
theorem dX2_changes_66 : decode cX2_changes 66 = .ok (.aload_n 0, 1) := by decide +kernel
theorem dX2_changes_67 : decode cX2_changes 67 = .ok (.getfield 37, 3) := by decide +kernel
theorem dX2_changes_70 : decode cX2_changes 70 = .ok (.imul, 1) := by decide +kernel
theorem dX2_changes_71 : decode cX2_changes 71 = .ok (.iload_n 1, 1) := by decide +kernel
theorem dX2_changes_72 : decode cX2_changes 72 = .ok (.iadd, 1) := by decide +kernel
theorem dX2_changes_73 : decode cX2_changes 73 = .ok (.aload_n 0, 1) := by decide +kernel
theorem dX2_changes_74 : decode cX2_changes 74 = .ok (.getfield 7, 3) := by decide +kernel
theorem dX2_changes_77 : decode cX2_changes 77 = .ok (.iload_n 1, 1) := by decide +kernel
theorem dX2_changes_78 : decode cX2_changes 78 = .ok (.iaload, 1) := by decide +kernel
theorem dX2_changes_79 : decode cX2_changes 79 = .ok (.iastore, 1) := by decide +kernel
theorem dX2_changes_80 : decode cX2_changes 80 = .ok (.iinc 1 1, 3) := by decide +kernel
theorem dX2_changes_83 : decode cX2_changes 83 = .ok (.goto (-31), 3) := by decide +kernel
theorem dX2_changes_86 : decode cX2_changes 86 = .ok (.aload_n 0, 1) := by decide +kernel
theorem dX2_changes_87 : decode cX2_changes 87 = .ok (.dup, 1) := by decide +kernel
theorem dX2_changes_88 : decode cX2_changes 88 = .ok (.getfield 37, 3) := by decide +kernel
theorem dX2_changes_91 : decode cX2_changes 91 = .ok (.iconst 1, 1) := by decide +kernel
theorem dX2_changes_92 : decode cX2_changes 92 = .ok (.iadd, 1) := by decide +kernel
theorem dX2_changes_93 : decode cX2_changes 93 = .ok (.putfield 37, 3) := by decide +kernel
theorem dX2_changes_96 : decode cX2_changes 96 = .ok (.return_, 1) := by decide +kernel
theorem dX2_keeps_0 : decode cX2_keeps 0 = .ok (.iconst 0, 1) := by decide +kernel
theorem dX2_keeps_1 : decode cX2_keeps 1 = .ok (.istore_n 1, 1) := by decide +kernel
theorem dX2_keeps_2 : decode cX2_keeps 2 = .ok (.iload_n 1, 1) := by decide +kernel
theorem dX2_keeps_3 : decode cX2_keeps 3 = .ok (.sipush 322, 3) := by decide +kernel
theorem dX2_keeps_6 : decode cX2_keeps 6 = .ok (.if_icmp .ge 21, 3) := by decide +kernel
theorem dX2_keeps_9 : decode cX2_keeps 9 = .ok (.aload_n 0, 1) := by decide +kernel
theorem dX2_keeps_10 : decode cX2_keeps 10 = .ok (.getfield 13, 3) := by decide +kernel
theorem dX2_keeps_13 : decode cX2_keeps 13 = .ok (.iload_n 1, 1) := by decide +kernel
theorem dX2_keeps_14 : decode cX2_keeps 14 = .ok (.aload_n 0, 1) := by decide +kernel
theorem dX2_keeps_15 : decode cX2_keeps 15 = .ok (.getfield 7, 3) := by decide +kernel
theorem dX2_keeps_18 : decode cX2_keeps 18 = .ok (.iload_n 1, 1) := by decide +kernel
theorem dX2_keeps_19 : decode cX2_keeps 19 = .ok (.iaload, 1) := by decide +kernel
theorem dX2_keeps_20 : decode cX2_keeps 20 = .ok (.iastore, 1) := by decide +kernel
theorem dX2_keeps_21 : decode cX2_keeps 21 = .ok (.iinc 1 1, 3) := by decide +kernel
theorem dX2_keeps_24 : decode cX2_keeps 24 = .ok (.goto (-22), 3) := by decide +kernel
theorem dX2_keeps_27 : decode cX2_keeps 27 = .ok (.return_, 1) := by decide +kernel
theorem dX2_comesBack_0 : decode cX2_comesBack 0 = .ok (.iconst 0, 1) := by decide +kernel
theorem dX2_comesBack_1 : decode cX2_comesBack 1 = .ok (.istore_n 1, 1) := by decide +kernel
theorem dX2_comesBack_2 : decode cX2_comesBack 2 = .ok (.iload_n 1, 1) := by decide +kernel
theorem dX2_comesBack_3 : decode cX2_comesBack 3 = .ok (.sipush 322, 3) := by decide +kernel
theorem dX2_comesBack_6 : decode cX2_comesBack 6 = .ok (.if_icmp .ge 21, 3) := by decide +kernel
theorem dX2_comesBack_9 : decode cX2_comesBack 9 = .ok (.aload_n 0, 1) := by decide +kernel
theorem dX2_comesBack_10 : decode cX2_comesBack 10 = .ok (.getfield 7, 3) := by decide +kernel
theorem dX2_comesBack_13 : decode cX2_comesBack 13 = .ok (.iload_n 1, 1) := by decide +kernel
theorem dX2_comesBack_14 : decode cX2_comesBack 14 = .ok (.aload_n 0, 1) := by decide +kernel
theorem dX2_comesBack_15 : decode cX2_comesBack 15 = .ok (.getfield 13, 3) := by decide +kernel
theorem dX2_comesBack_18 : decode cX2_comesBack 18 = .ok (.iload_n 1, 1) := by decide +kernel
theorem dX2_comesBack_19 : decode cX2_comesBack 19 = .ok (.iaload, 1) := by decide +kernel
theorem dX2_comesBack_20 : decode cX2_comesBack 20 = .ok (.iastore, 1) := by decide +kernel
theorem dX2_comesBack_21 : decode cX2_comesBack 21 = .ok (.iinc 1 1, 3) := by decide +kernel
theorem dX2_comesBack_24 : decode cX2_comesBack 24 = .ok (.goto (-22), 3) := by decide +kernel
theorem dX2_comesBack_27 : decode cX2_comesBack 27 = .ok (.return_, 1) := by decide +kernel
set_option maxRecDepth 20000 in
theorem ggX2_isName_X2_in : GoodIn wsX2_isName wsX2_in := goodIn_r _ [5] (by decide +kernel) (by decide +kernel)
set_option maxRecDepth 20000 in
theorem gX2_isName_X2_in : GoodIn wsX2_isName (va_wsS RX2 41 yX2_in wsX2_in) := goodIn_app (goodIn_of _ (by decide +kernel)) ggX2_isName_X2_in
theorem dX2_isName_0 : decode cX2_isName 0 = .ok (.iload_n 1, 1) := by decide +kernel
theorem dX2_isName_1 : decode cX2_isName 1 = .ok (.i2l, 1) := by decide +kernel
theorem dX2_isName_2 : decode cX2_isName 2 = .ok (.lconst 0, 1) := by decide +kernel
theorem dX2_isName_3 : decode cX2_isName 3 = .ok (.aload_n 0, 1) := by decide +kernel
theorem dX2_isName_4 : decode cX2_isName 4 = .ok (.getfield 7, 3) := by decide +kernel
theorem dX2_isName_7 : decode cX2_isName 7 = .ok (.iconst 5, 1) := by decide +kernel
theorem dX2_isName_8 : decode cX2_isName 8 = .ok (.iaload, 1) := by decide +kernel
theorem dX2_isName_9 : decode cX2_isName 9 = .ok (.i2l, 1) := by decide +kernel
theorem dX2_isName_10 : decode cX2_isName 10 = .ok (.lconst 1, 1) := by decide +kernel
theorem dX2_isName_11 : decode cX2_isName 11 = .ok (.lsub, 1) := by decide +kernel
theorem dX2_isName_12 : decode cX2_isName 12 = .ok (.invokestatic 41, 3) := by decide +kernel
theorem dX2_isName_15 : decode cX2_isName 15 = .ok (.ireturn, 1) := by decide +kernel
set_option maxRecDepth 20000 in
theorem ggX2_isCorner_X2_in : GoodIn wsX2_isCorner wsX2_in := goodIn_r _ [5] (by decide +kernel) (by decide +kernel)
set_option maxRecDepth 20000 in
theorem gX2_isCorner_X2_in : GoodIn wsX2_isCorner (va_wsS RX2 41 yX2_in wsX2_in) := goodIn_app (goodIn_of _ (by decide +kernel)) ggX2_isCorner_X2_in
theorem dX2_isCorner_0 : decode cX2_isCorner 0 = .ok (.iload_n 0, 1) := by decide +kernel
theorem dX2_isCorner_1 : decode cX2_isCorner 1 = .ok (.i2l, 1) := by decide +kernel
theorem dX2_isCorner_2 : decode cX2_isCorner 2 = .ok (.lconst 0, 1) := by decide +kernel
theorem dX2_isCorner_3 : decode cX2_isCorner 3 = .ok (.ldc2_w 45, 3) := by decide +kernel
theorem dX2_isCorner_6 : decode cX2_isCorner 6 = .ok (.invokestatic 41, 3) := by decide +kernel
theorem dX2_isCorner_9 : decode cX2_isCorner 9 = .ok (.ireturn, 1) := by decide +kernel
theorem dX2_get_0 : decode cX2_get 0 = .ok (.aload_n 0, 1) := by decide +kernel
theorem dX2_get_1 : decode cX2_get 1 = .ok (.getfield 7, 3) := by decide +kernel
theorem dX2_get_4 : decode cX2_get 4 = .ok (.bipush 9, 2) := by decide +kernel
theorem dX2_get_6 : decode cX2_get 6 = .ok (.bipush 12, 2) := by decide +kernel
theorem dX2_get_8 : decode cX2_get 8 = .ok (.iload_n 1, 1) := by decide +kernel
theorem dX2_get_9 : decode cX2_get 9 = .ok (.imul, 1) := by decide +kernel
theorem dX2_get_10 : decode cX2_get 10 = .ok (.iadd, 1) := by decide +kernel
theorem dX2_get_11 : decode cX2_get 11 = .ok (.iload_n 2, 1) := by decide +kernel
theorem dX2_get_12 : decode cX2_get 12 = .ok (.iadd, 1) := by decide +kernel
theorem dX2_get_13 : decode cX2_get 13 = .ok (.iaload, 1) := by decide +kernel
theorem dX2_get_14 : decode cX2_get 14 = .ok (.ireturn, 1) := by decide +kernel
theorem dX2_lays_0 : decode cX2_lays 0 = .ok (.aload_n 0, 1) := by decide +kernel
theorem dX2_lays_1 : decode cX2_lays 1 = .ok (.getfield 7, 3) := by decide +kernel
theorem dX2_lays_4 : decode cX2_lays 4 = .ok (.bipush 9, 2) := by decide +kernel
theorem dX2_lays_6 : decode cX2_lays 6 = .ok (.bipush 12, 2) := by decide +kernel
theorem dX2_lays_8 : decode cX2_lays 8 = .ok (.iload_n 1, 1) := by decide +kernel
theorem dX2_lays_9 : decode cX2_lays 9 = .ok (.imul, 1) := by decide +kernel
theorem dX2_lays_10 : decode cX2_lays 10 = .ok (.iadd, 1) := by decide +kernel
theorem dX2_lays_11 : decode cX2_lays 11 = .ok (.iload_n 2, 1) := by decide +kernel
theorem dX2_lays_12 : decode cX2_lays 12 = .ok (.iadd, 1) := by decide +kernel
theorem dX2_lays_13 : decode cX2_lays 13 = .ok (.iload_n 3, 1) := by decide +kernel
theorem dX2_lays_14 : decode cX2_lays 14 = .ok (.iastore, 1) := by decide +kernel
theorem dX2_lays_15 : decode cX2_lays 15 = .ok (.return_, 1) := by decide +kernel
theorem dX2_sign_0 : decode cX2_sign 0 = .ok (.iload_n 0, 1) := by decide +kernel
theorem dX2_sign_1 : decode cX2_sign 1 = .ok (.tableswitch 131 97 121 #[126, 115, 131, 117, 126, 119, 131, 129, 126, 131, 131, 121, 123, 123, 126, 115, 131, 121, 131, 117, 126, 119, 119, 131, 129], 115) := by decide +kernel
theorem dX2_sign_116 : decode cX2_sign 116 = .ok (.iconst 1, 1) := by decide +kernel
theorem dX2_sign_117 : decode cX2_sign 117 = .ok (.ireturn, 1) := by decide +kernel
theorem dX2_sign_118 : decode cX2_sign 118 = .ok (.iconst 3, 1) := by decide +kernel
theorem dX2_sign_119 : decode cX2_sign 119 = .ok (.ireturn, 1) := by decide +kernel
theorem dX2_sign_120 : decode cX2_sign 120 = .ok (.iconst 4, 1) := by decide +kernel
theorem dX2_sign_121 : decode cX2_sign 121 = .ok (.ireturn, 1) := by decide +kernel
theorem dX2_sign_122 : decode cX2_sign 122 = .ok (.iconst 5, 1) := by decide +kernel
theorem dX2_sign_123 : decode cX2_sign 123 = .ok (.ireturn, 1) := by decide +kernel
theorem dX2_sign_124 : decode cX2_sign 124 = .ok (.bipush 6, 2) := by decide +kernel
theorem dX2_sign_126 : decode cX2_sign 126 = .ok (.ireturn, 1) := by decide +kernel
theorem dX2_sign_127 : decode cX2_sign 127 = .ok (.bipush 7, 2) := by decide +kernel
theorem dX2_sign_129 : decode cX2_sign 129 = .ok (.ireturn, 1) := by decide +kernel
theorem dX2_sign_130 : decode cX2_sign 130 = .ok (.iconst 0, 1) := by decide +kernel
theorem dX2_sign_131 : decode cX2_sign 131 = .ok (.ireturn, 1) := by decide +kernel
theorem dX2_sign_132 : decode cX2_sign 132 = .ok (.iconst 2, 1) := by decide +kernel
theorem dX2_sign_133 : decode cX2_sign 133 = .ok (.ireturn, 1) := by decide +kernel
theorem dX2_bearers_0 : decode cX2_bearers 0 = .ok (.iconst 0, 1) := by decide +kernel
theorem dX2_bearers_1 : decode cX2_bearers 1 = .ok (.istore_n 2, 1) := by decide +kernel
theorem dX2_bearers_2 : decode cX2_bearers 2 = .ok (.iconst 0, 1) := by decide +kernel
theorem dX2_bearers_3 : decode cX2_bearers 3 = .ok (.istore_n 3, 1) := by decide +kernel
theorem dX2_bearers_4 : decode cX2_bearers 4 = .ok (.iload_n 3, 1) := by decide +kernel
theorem dX2_bearers_5 : decode cX2_bearers 5 = .ok (.bipush 12, 2) := by decide +kernel
theorem dX2_bearers_7 : decode cX2_bearers 7 = .ok (.if_icmp .ge 33, 3) := by decide +kernel
theorem dX2_bearers_10 : decode cX2_bearers 10 = .ok (.iload_n 2, 1) := by decide +kernel
theorem dX2_bearers_11 : decode cX2_bearers 11 = .ok (.aload_n 0, 1) := by decide +kernel
theorem dX2_bearers_12 : decode cX2_bearers 12 = .ok (.getfield 7, 3) := by decide +kernel
theorem dX2_bearers_15 : decode cX2_bearers 15 = .ok (.sipush 249, 3) := by decide +kernel
theorem dX2_bearers_18 : decode cX2_bearers 18 = .ok (.iload_n 3, 1) := by decide +kernel
theorem dX2_bearers_19 : decode cX2_bearers 19 = .ok (.iadd, 1) := by decide +kernel
theorem dX2_bearers_20 : decode cX2_bearers 20 = .ok (.iaload, 1) := by decide +kernel
theorem dX2_bearers_21 : decode cX2_bearers 21 = .ok (.iload_n 1, 1) := by decide +kernel
theorem dX2_bearers_22 : decode cX2_bearers 22 = .ok (.if_icmp .ne 9, 3) := by decide +kernel
theorem dX2_bearers_25 : decode cX2_bearers 25 = .ok (.iconst 1, 1) := by decide +kernel
theorem dX2_bearers_26 : decode cX2_bearers 26 = .ok (.iload_n 3, 1) := by decide +kernel
theorem dX2_bearers_27 : decode cX2_bearers 27 = .ok (.ishl, 1) := by decide +kernel
theorem dX2_bearers_28 : decode cX2_bearers 28 = .ok (.goto 4, 3) := by decide +kernel
theorem dX2_bearers_31 : decode cX2_bearers 31 = .ok (.iconst 0, 1) := by decide +kernel
theorem dX2_bearers_32 : decode cX2_bearers 32 = .ok (.ior, 1) := by decide +kernel
theorem dX2_bearers_33 : decode cX2_bearers 33 = .ok (.istore_n 2, 1) := by decide +kernel
theorem dX2_bearers_34 : decode cX2_bearers 34 = .ok (.iinc 3 1, 3) := by decide +kernel
theorem dX2_bearers_37 : decode cX2_bearers 37 = .ok (.goto (-33), 3) := by decide +kernel
theorem dX2_bearers_40 : decode cX2_bearers 40 = .ok (.iload_n 2, 1) := by decide +kernel
theorem dX2_bearers_41 : decode cX2_bearers 41 = .ok (.ireturn, 1) := by decide +kernel
theorem dX2_bits_0 : decode cX2_bits 0 = .ok (.iconst 0, 1) := by decide +kernel
theorem dX2_bits_1 : decode cX2_bits 1 = .ok (.istore_n 1, 1) := by decide +kernel
theorem dX2_bits_2 : decode cX2_bits 2 = .ok (.iconst 0, 1) := by decide +kernel
theorem dX2_bits_3 : decode cX2_bits 3 = .ok (.istore_n 2, 1) := by decide +kernel
theorem dX2_bits_4 : decode cX2_bits 4 = .ok (.iload_n 2, 1) := by decide +kernel
theorem dX2_bits_5 : decode cX2_bits 5 = .ok (.bipush 12, 2) := by decide +kernel
theorem dX2_bits_7 : decode cX2_bits 7 = .ok (.if_icmp .ge 17, 3) := by decide +kernel
theorem dX2_bits_10 : decode cX2_bits 10 = .ok (.iload_n 1, 1) := by decide +kernel
theorem dX2_bits_11 : decode cX2_bits 11 = .ok (.iload_n 0, 1) := by decide +kernel
theorem dX2_bits_12 : decode cX2_bits 12 = .ok (.iload_n 2, 1) := by decide +kernel
theorem dX2_bits_13 : decode cX2_bits 13 = .ok (.ishr, 1) := by decide +kernel
theorem dX2_bits_14 : decode cX2_bits 14 = .ok (.iconst 1, 1) := by decide +kernel
theorem dX2_bits_15 : decode cX2_bits 15 = .ok (.iand, 1) := by decide +kernel
theorem dX2_bits_16 : decode cX2_bits 16 = .ok (.iadd, 1) := by decide +kernel
theorem dX2_bits_17 : decode cX2_bits 17 = .ok (.istore_n 1, 1) := by decide +kernel
theorem dX2_bits_18 : decode cX2_bits 18 = .ok (.iinc 2 1, 3) := by decide +kernel
theorem dX2_bits_21 : decode cX2_bits 21 = .ok (.goto (-17), 3) := by decide +kernel
theorem dX2_bits_24 : decode cX2_bits 24 = .ok (.iload_n 1, 1) := by decide +kernel
theorem dX2_bits_25 : decode cX2_bits 25 = .ok (.ireturn, 1) := by decide +kernel
set_option maxRecDepth 20000 in
theorem ggX2_whereIs_X2_get : GoodIn wsX2_whereIs wsX2_get := goodIn_r _ [5, 6, 11, 12, 13, 14, 15, 16, 17, 18, 19, 20, 21, 22, 23] (by decide +kernel) (by decide +kernel)
set_option maxRecDepth 20000 in
theorem gX2_whereIs_X2_get : GoodIn wsX2_whereIs (wsV RX2 47 RX2 yX2_get wsX2_get) := goodIn_app (goodIn_of _ (by decide +kernel)) ggX2_whereIs_X2_get
set_option maxRecDepth 20000 in
theorem ggX2_whereIs_X2_bearers : GoodIn wsX2_whereIs wsX2_bearers := goodIn_r _ [10, 6, 11, 12, 13, 14, 15, 16, 17, 18, 19, 20, 21, 22, 23] (by decide +kernel) (by decide +kernel)
set_option maxRecDepth 20000 in
theorem gX2_whereIs_X2_bearers : GoodIn wsX2_whereIs (wsV RX2 51 RX2 yX2_bearers wsX2_bearers) := goodIn_app (goodIn_of _ (by decide +kernel)) ggX2_whereIs_X2_bearers
theorem dX2_whereIs_0 : decode cX2_whereIs 0 = .ok (.aload_n 0, 1) := by decide +kernel
theorem dX2_whereIs_1 : decode cX2_whereIs 1 = .ok (.iload_n 1, 1) := by decide +kernel
theorem dX2_whereIs_2 : decode cX2_whereIs 2 = .ok (.iconst 1, 1) := by decide +kernel
theorem dX2_whereIs_3 : decode cX2_whereIs 3 = .ok (.invokevirtual 47, 3) := by decide +kernel
theorem dX2_whereIs_6 : decode cX2_whereIs 6 = .ok (.iconst 1, 1) := by decide +kernel
theorem dX2_whereIs_7 : decode cX2_whereIs 7 = .ok (.if_icmp .ne 7, 3) := by decide +kernel
theorem dX2_whereIs_10 : decode cX2_whereIs 10 = .ok (.iconst 2, 1) := by decide +kernel
theorem dX2_whereIs_11 : decode cX2_whereIs 11 = .ok (.goto 16, 3) := by decide +kernel
theorem dX2_whereIs_14 : decode cX2_whereIs 14 = .ok (.aload_n 0, 1) := by decide +kernel
theorem dX2_whereIs_15 : decode cX2_whereIs 15 = .ok (.iload_n 1, 1) := by decide +kernel
theorem dX2_whereIs_16 : decode cX2_whereIs 16 = .ok (.invokevirtual 51, 3) := by decide +kernel
theorem dX2_whereIs_19 : decode cX2_whereIs 19 = .ok (.ifCond .eq 7, 3) := by decide +kernel
theorem dX2_whereIs_22 : decode cX2_whereIs 22 = .ok (.iconst 1, 1) := by decide +kernel
theorem dX2_whereIs_23 : decode cX2_whereIs 23 = .ok (.goto 4, 3) := by decide +kernel
theorem dX2_whereIs_26 : decode cX2_whereIs 26 = .ok (.iconst 0, 1) := by decide +kernel
theorem dX2_whereIs_27 : decode cX2_whereIs 27 = .ok (.ireturn, 1) := by decide +kernel
set_option maxRecDepth 20000 in
theorem ggX2_soundAlike_X2_get : GoodIn wsX2_soundAlike wsX2_get := goodIn_r _ [5, 6, 7, 8, 9, 10, 11, 12, 13, 14, 15, 16, 17, 18, 19] (by decide +kernel) (by decide +kernel)
set_option maxRecDepth 20000 in
theorem gX2_soundAlike_X2_get : GoodIn wsX2_soundAlike (wsV RX2 47 RX2 yX2_get wsX2_get) := goodIn_app (goodIn_of _ (by decide +kernel)) ggX2_soundAlike_X2_get
theorem dX2_soundAlike_0 : decode cX2_soundAlike 0 = .ok (.aload_n 0, 1) := by decide +kernel
theorem dX2_soundAlike_1 : decode cX2_soundAlike 1 = .ok (.iload_n 1, 1) := by decide +kernel
theorem dX2_soundAlike_2 : decode cX2_soundAlike 2 = .ok (.iconst 4, 1) := by decide +kernel
theorem dX2_soundAlike_3 : decode cX2_soundAlike 3 = .ok (.invokevirtual 47, 3) := by decide +kernel
theorem dX2_soundAlike_6 : decode cX2_soundAlike 6 = .ok (.aload_n 0, 1) := by decide +kernel
theorem dX2_soundAlike_7 : decode cX2_soundAlike 7 = .ok (.iload_n 2, 1) := by decide +kernel
theorem dX2_soundAlike_8 : decode cX2_soundAlike 8 = .ok (.iconst 4, 1) := by decide +kernel
theorem dX2_soundAlike_9 : decode cX2_soundAlike 9 = .ok (.invokevirtual 47, 3) := by decide +kernel
theorem dX2_soundAlike_12 : decode cX2_soundAlike 12 = .ok (.if_icmp .ne 7, 3) := by decide +kernel
theorem dX2_soundAlike_15 : decode cX2_soundAlike 15 = .ok (.iconst 1, 1) := by decide +kernel
theorem dX2_soundAlike_16 : decode cX2_soundAlike 16 = .ok (.goto 4, 3) := by decide +kernel
theorem dX2_soundAlike_19 : decode cX2_soundAlike 19 = .ok (.iconst 0, 1) := by decide +kernel
theorem dX2_soundAlike_20 : decode cX2_soundAlike 20 = .ok (.ireturn, 1) := by decide +kernel
set_option maxRecDepth 20000 in
theorem ggX2_comesFirst_X2_get : GoodIn wsX2_comesFirst wsX2_get := goodIn_r _ [5, 6, 7, 8, 9, 10, 11, 12, 13, 14, 15, 16, 17, 18, 19] (by decide +kernel) (by decide +kernel)
set_option maxRecDepth 20000 in
theorem gX2_comesFirst_X2_get : GoodIn wsX2_comesFirst (wsV RX2 47 RX2 yX2_get wsX2_get) := goodIn_app (goodIn_of _ (by decide +kernel)) ggX2_comesFirst_X2_get
theorem dX2_comesFirst_0 : decode cX2_comesFirst 0 = .ok (.aload_n 0, 1) := by decide +kernel
theorem dX2_comesFirst_1 : decode cX2_comesFirst 1 = .ok (.iload_n 1, 1) := by decide +kernel
theorem dX2_comesFirst_2 : decode cX2_comesFirst 2 = .ok (.iconst 0, 1) := by decide +kernel
theorem dX2_comesFirst_3 : decode cX2_comesFirst 3 = .ok (.invokevirtual 47, 3) := by decide +kernel
theorem dX2_comesFirst_6 : decode cX2_comesFirst 6 = .ok (.aload_n 0, 1) := by decide +kernel
theorem dX2_comesFirst_7 : decode cX2_comesFirst 7 = .ok (.iload_n 2, 1) := by decide +kernel
theorem dX2_comesFirst_8 : decode cX2_comesFirst 8 = .ok (.iconst 0, 1) := by decide +kernel
theorem dX2_comesFirst_9 : decode cX2_comesFirst 9 = .ok (.invokevirtual 47, 3) := by decide +kernel
theorem dX2_comesFirst_12 : decode cX2_comesFirst 12 = .ok (.if_icmp .gt 23, 3) := by decide +kernel
theorem dX2_comesFirst_15 : decode cX2_comesFirst 15 = .ok (.aload_n 0, 1) := by decide +kernel
theorem dX2_comesFirst_16 : decode cX2_comesFirst 16 = .ok (.iload_n 1, 1) := by decide +kernel
theorem dX2_comesFirst_17 : decode cX2_comesFirst 17 = .ok (.iconst 0, 1) := by decide +kernel
theorem dX2_comesFirst_18 : decode cX2_comesFirst 18 = .ok (.invokevirtual 47, 3) := by decide +kernel
theorem dX2_comesFirst_21 : decode cX2_comesFirst 21 = .ok (.aload_n 0, 1) := by decide +kernel
theorem dX2_comesFirst_22 : decode cX2_comesFirst 22 = .ok (.iload_n 2, 1) := by decide +kernel
theorem dX2_comesFirst_23 : decode cX2_comesFirst 23 = .ok (.iconst 0, 1) := by decide +kernel
theorem dX2_comesFirst_24 : decode cX2_comesFirst 24 = .ok (.invokevirtual 47, 3) := by decide +kernel
theorem dX2_comesFirst_27 : decode cX2_comesFirst 27 = .ok (.if_icmp .ne 12, 3) := by decide +kernel
theorem dX2_comesFirst_30 : decode cX2_comesFirst 30 = .ok (.iload_n 1, 1) := by decide +kernel
theorem dX2_comesFirst_31 : decode cX2_comesFirst 31 = .ok (.iload_n 2, 1) := by decide +kernel
theorem dX2_comesFirst_32 : decode cX2_comesFirst 32 = .ok (.if_icmp .ge 7, 3) := by decide +kernel
theorem dX2_comesFirst_35 : decode cX2_comesFirst 35 = .ok (.iconst 1, 1) := by decide +kernel
theorem dX2_comesFirst_36 : decode cX2_comesFirst 36 = .ok (.goto 4, 3) := by decide +kernel
theorem dX2_comesFirst_39 : decode cX2_comesFirst 39 = .ok (.iconst 0, 1) := by decide +kernel
theorem dX2_comesFirst_40 : decode cX2_comesFirst 40 = .ok (.ireturn, 1) := by decide +kernel
set_option maxRecDepth 20000 in
theorem ggX2_isPun_X2_soundAlike : GoodIn wsX2_isPun wsX2_soundAlike := goodIn_r _ [6, 7, 8, 9, 5, 10, 1, 11, 12, 13, 14, 15, 16, 17, 18, 19, 20, 21, 22, 23] (by decide +kernel) (by decide +kernel)
set_option maxRecDepth 20000 in
theorem gX2_isPun_X2_soundAlike : GoodIn wsX2_isPun (wsV RX2 55 RX2 yX2_soundAlike wsX2_soundAlike) := goodIn_app (goodIn_of _ (by decide +kernel)) ggX2_isPun_X2_soundAlike
theorem dX2_isPun_0 : decode cX2_isPun 0 = .ok (.iconst 0, 1) := by decide +kernel
theorem dX2_isPun_1 : decode cX2_isPun 1 = .ok (.istore_n 3, 1) := by decide +kernel
theorem dX2_isPun_2 : decode cX2_isPun 2 = .ok (.iconst 0, 1) := by decide +kernel
theorem dX2_isPun_3 : decode cX2_isPun 3 = .ok (.istore 4, 2) := by decide +kernel
theorem dX2_isPun_5 : decode cX2_isPun 5 = .ok (.iload 4, 2) := by decide +kernel
theorem dX2_isPun_7 : decode cX2_isPun 7 = .ok (.bipush 12, 2) := by decide +kernel
theorem dX2_isPun_9 : decode cX2_isPun 9 = .ok (.if_icmp .ge 87, 3) := by decide +kernel
theorem dX2_isPun_12 : decode cX2_isPun 12 = .ok (.aload_n 0, 1) := by decide +kernel
theorem dX2_isPun_13 : decode cX2_isPun 13 = .ok (.getfield 7, 3) := by decide +kernel
theorem dX2_isPun_16 : decode cX2_isPun 16 = .ok (.sipush 249, 3) := by decide +kernel
theorem dX2_isPun_19 : decode cX2_isPun 19 = .ok (.iload 4, 2) := by decide +kernel
theorem dX2_isPun_21 : decode cX2_isPun 21 = .ok (.iadd, 1) := by decide +kernel
theorem dX2_isPun_22 : decode cX2_isPun 22 = .ok (.iaload, 1) := by decide +kernel
theorem dX2_isPun_23 : decode cX2_isPun 23 = .ok (.istore 5, 2) := by decide +kernel
theorem dX2_isPun_25 : decode cX2_isPun 25 = .ok (.iload_n 3, 1) := by decide +kernel
theorem dX2_isPun_26 : decode cX2_isPun 26 = .ok (.ifCond .ne 58, 3) := by decide +kernel
theorem dX2_isPun_29 : decode cX2_isPun 29 = .ok (.iload 4, 2) := by decide +kernel
theorem dX2_isPun_31 : decode cX2_isPun 31 = .ok (.iload_n 2, 1) := by decide +kernel
theorem dX2_isPun_32 : decode cX2_isPun 32 = .ok (.if_icmp .eq 56, 3) := by decide +kernel
theorem dX2_isPun_35 : decode cX2_isPun 35 = .ok (.iload 4, 2) := by decide +kernel
theorem dX2_isPun_37 : decode cX2_isPun 37 = .ok (.iload_n 2, 1) := by decide +kernel
theorem dX2_isPun_38 : decode cX2_isPun 38 = .ok (.isub, 1) := by decide +kernel
theorem dX2_isPun_39 : decode cX2_isPun 39 = .ok (.aload_n 0, 1) := by decide +kernel
theorem dX2_isPun_40 : decode cX2_isPun 40 = .ok (.getfield 7, 3) := by decide +kernel
theorem dX2_isPun_43 : decode cX2_isPun 43 = .ok (.iconst 0, 1) := by decide +kernel
theorem dX2_isPun_44 : decode cX2_isPun 44 = .ok (.iaload, 1) := by decide +kernel
theorem dX2_isPun_45 : decode cX2_isPun 45 = .ok (.if_icmp .gt 43, 3) := by decide +kernel
theorem dX2_isPun_48 : decode cX2_isPun 48 = .ok (.iload_n 2, 1) := by decide +kernel
theorem dX2_isPun_49 : decode cX2_isPun 49 = .ok (.iload 4, 2) := by decide +kernel
theorem dX2_isPun_51 : decode cX2_isPun 51 = .ok (.isub, 1) := by decide +kernel
theorem dX2_isPun_52 : decode cX2_isPun 52 = .ok (.aload_n 0, 1) := by decide +kernel
theorem dX2_isPun_53 : decode cX2_isPun 53 = .ok (.getfield 7, 3) := by decide +kernel
theorem dX2_isPun_56 : decode cX2_isPun 56 = .ok (.iconst 0, 1) := by decide +kernel
theorem dX2_isPun_57 : decode cX2_isPun 57 = .ok (.iaload, 1) := by decide +kernel
theorem dX2_isPun_58 : decode cX2_isPun 58 = .ok (.if_icmp .gt 30, 3) := by decide +kernel
theorem dX2_isPun_61 : decode cX2_isPun 61 = .ok (.iload 5, 2) := by decide +kernel
theorem dX2_isPun_63 : decode cX2_isPun 63 = .ok (.bipush (-6), 2) := by decide +kernel
theorem dX2_isPun_65 : decode cX2_isPun 65 = .ok (.if_icmp .eq 23, 3) := by decide +kernel
theorem dX2_isPun_68 : decode cX2_isPun 68 = .ok (.iload 5, 2) := by decide +kernel
theorem dX2_isPun_70 : decode cX2_isPun 70 = .ok (.iload_n 1, 1) := by decide +kernel
theorem dX2_isPun_71 : decode cX2_isPun 71 = .ok (.if_icmp .eq 17, 3) := by decide +kernel
theorem dX2_isPun_74 : decode cX2_isPun 74 = .ok (.aload_n 0, 1) := by decide +kernel
theorem dX2_isPun_75 : decode cX2_isPun 75 = .ok (.iload 5, 2) := by decide +kernel
theorem dX2_isPun_77 : decode cX2_isPun 77 = .ok (.iload_n 1, 1) := by decide +kernel
theorem dX2_isPun_78 : decode cX2_isPun 78 = .ok (.invokevirtual 55, 3) := by decide +kernel
theorem dX2_isPun_81 : decode cX2_isPun 81 = .ok (.ifCond .eq 7, 3) := by decide +kernel
theorem dX2_isPun_84 : decode cX2_isPun 84 = .ok (.iconst 1, 1) := by decide +kernel
theorem dX2_isPun_85 : decode cX2_isPun 85 = .ok (.goto 4, 3) := by decide +kernel
theorem dX2_isPun_88 : decode cX2_isPun 88 = .ok (.iconst 0, 1) := by decide +kernel
theorem dX2_isPun_89 : decode cX2_isPun 89 = .ok (.istore_n 3, 1) := by decide +kernel
theorem dX2_isPun_90 : decode cX2_isPun 90 = .ok (.iinc 4 1, 3) := by decide +kernel
theorem dX2_isPun_93 : decode cX2_isPun 93 = .ok (.goto (-88), 3) := by decide +kernel
theorem dX2_isPun_96 : decode cX2_isPun 96 = .ok (.iload_n 3, 1) := by decide +kernel
theorem dX2_isPun_97 : decode cX2_isPun 97 = .ok (.ireturn, 1) := by decide +kernel
set_option maxRecDepth 20000 in
theorem ggX2_reason_X2_get : GoodIn wsX2_reason wsX2_get := goodIn_r _ [6, 1, 22, 23, 24, 25, 26, 27, 28, 29, 30, 31, 32, 33, 34] (by decide +kernel) (by decide +kernel)
set_option maxRecDepth 20000 in
theorem gX2_reason_X2_get : GoodIn wsX2_reason (wsV RX2 47 RX2 yX2_get wsX2_get) := goodIn_app (goodIn_of _ (by decide +kernel)) ggX2_reason_X2_get
set_option maxRecDepth 20000 in
theorem ggX2_reason_X2_bearers : GoodIn wsX2_reason wsX2_bearers := goodIn_r _ [10, 1, 22, 23, 24, 25, 26, 27, 28, 29, 30, 31, 32, 33, 34] (by decide +kernel) (by decide +kernel)
set_option maxRecDepth 20000 in
theorem gX2_reason_X2_bearers : GoodIn wsX2_reason (wsV RX2 51 RX2 yX2_bearers wsX2_bearers) := goodIn_app (goodIn_of _ (by decide +kernel)) ggX2_reason_X2_bearers
set_option maxRecDepth 20000 in
theorem ggX2_reason_X2_bits : GoodIn wsX2_reason wsX2_bits := goodIn_r _ [13] (by decide +kernel) (by decide +kernel)
set_option maxRecDepth 20000 in
theorem gX2_reason_X2_bits : GoodIn wsX2_reason (va_wsS RX2 59 yX2_bits wsX2_bits) := goodIn_app (goodIn_of _ (by decide +kernel)) ggX2_reason_X2_bits
set_option maxRecDepth 20000 in
theorem ggX2_reason_X2_isPun : GoodIn wsX2_reason wsX2_isPun := goodIn_r _ [17, 1, 18, 19, 20, 5, 21, 2, 3, 4, 6, 22, 23, 24, 25, 26, 27, 28, 29, 30, 31, 32, 33, 34] (by decide +kernel) (by decide +kernel)
set_option maxRecDepth 20000 in
theorem gX2_reason_X2_isPun : GoodIn wsX2_reason (wsV RX2 62 RX2 yX2_isPun wsX2_isPun) := goodIn_app (goodIn_of _ (by decide +kernel)) ggX2_reason_X2_isPun
theorem dX2_reason_0 : decode cX2_reason 0 = .ok (.aload_n 0, 1) := by decide +kernel
theorem dX2_reason_1 : decode cX2_reason 1 = .ok (.getfield 7, 3) := by decide +kernel
theorem dX2_reason_4 : decode cX2_reason 4 = .ok (.sipush 249, 3) := by decide +kernel
theorem dX2_reason_7 : decode cX2_reason 7 = .ok (.iload_n 2, 1) := by decide +kernel
theorem dX2_reason_8 : decode cX2_reason 8 = .ok (.iadd, 1) := by decide +kernel
theorem dX2_reason_9 : decode cX2_reason 9 = .ok (.iaload, 1) := by decide +kernel
theorem dX2_reason_10 : decode cX2_reason 10 = .ok (.istore_n 3, 1) := by decide +kernel
theorem dX2_reason_11 : decode cX2_reason 11 = .ok (.aload_n 0, 1) := by decide +kernel
theorem dX2_reason_12 : decode cX2_reason 12 = .ok (.iload_n 1, 1) := by decide +kernel
theorem dX2_reason_13 : decode cX2_reason 13 = .ok (.iconst 1, 1) := by decide +kernel
theorem dX2_reason_14 : decode cX2_reason 14 = .ok (.invokevirtual 47, 3) := by decide +kernel
theorem dX2_reason_17 : decode cX2_reason 17 = .ok (.iconst 1, 1) := by decide +kernel
theorem dX2_reason_18 : decode cX2_reason 18 = .ok (.if_icmp .ne 5, 3) := by decide +kernel
theorem dX2_reason_21 : decode cX2_reason 21 = .ok (.iconst 1, 1) := by decide +kernel
theorem dX2_reason_22 : decode cX2_reason 22 = .ok (.ireturn, 1) := by decide +kernel
theorem dX2_reason_23 : decode cX2_reason 23 = .ok (.iload_n 3, 1) := by decide +kernel
theorem dX2_reason_24 : decode cX2_reason 24 = .ok (.iload_n 1, 1) := by decide +kernel
theorem dX2_reason_25 : decode cX2_reason 25 = .ok (.if_icmp .ne 5, 3) := by decide +kernel
theorem dX2_reason_28 : decode cX2_reason 28 = .ok (.iconst 2, 1) := by decide +kernel
theorem dX2_reason_29 : decode cX2_reason 29 = .ok (.ireturn, 1) := by decide +kernel
theorem dX2_reason_30 : decode cX2_reason 30 = .ok (.aload_n 0, 1) := by decide +kernel
theorem dX2_reason_31 : decode cX2_reason 31 = .ok (.iload_n 1, 1) := by decide +kernel
theorem dX2_reason_32 : decode cX2_reason 32 = .ok (.invokevirtual 51, 3) := by decide +kernel
theorem dX2_reason_35 : decode cX2_reason 35 = .ok (.invokestatic 59, 3) := by decide +kernel
theorem dX2_reason_38 : decode cX2_reason 38 = .ok (.aload_n 0, 1) := by decide +kernel
theorem dX2_reason_39 : decode cX2_reason 39 = .ok (.getfield 7, 3) := by decide +kernel
theorem dX2_reason_42 : decode cX2_reason 42 = .ok (.iconst 1, 1) := by decide +kernel
theorem dX2_reason_43 : decode cX2_reason 43 = .ok (.iaload, 1) := by decide +kernel
theorem dX2_reason_44 : decode cX2_reason 44 = .ok (.if_icmp .lt 5, 3) := by decide +kernel
theorem dX2_reason_47 : decode cX2_reason 47 = .ok (.iconst 3, 1) := by decide +kernel
theorem dX2_reason_48 : decode cX2_reason 48 = .ok (.ireturn, 1) := by decide +kernel
theorem dX2_reason_49 : decode cX2_reason 49 = .ok (.aload_n 0, 1) := by decide +kernel
theorem dX2_reason_50 : decode cX2_reason 50 = .ok (.iload_n 1, 1) := by decide +kernel
theorem dX2_reason_51 : decode cX2_reason 51 = .ok (.iload_n 2, 1) := by decide +kernel
theorem dX2_reason_52 : decode cX2_reason 52 = .ok (.invokevirtual 62, 3) := by decide +kernel
theorem dX2_reason_55 : decode cX2_reason 55 = .ok (.ifCond .eq 5, 3) := by decide +kernel
theorem dX2_reason_58 : decode cX2_reason 58 = .ok (.iconst 4, 1) := by decide +kernel
theorem dX2_reason_59 : decode cX2_reason 59 = .ok (.ireturn, 1) := by decide +kernel
theorem dX2_reason_60 : decode cX2_reason 60 = .ok (.iload_n 3, 1) := by decide +kernel
theorem dX2_reason_61 : decode cX2_reason 61 = .ok (.bipush (-6), 2) := by decide +kernel
theorem dX2_reason_63 : decode cX2_reason 63 = .ok (.if_icmp .ne 5, 3) := by decide +kernel
theorem dX2_reason_66 : decode cX2_reason 66 = .ok (.iconst 0, 1) := by decide +kernel
theorem dX2_reason_67 : decode cX2_reason 67 = .ok (.ireturn, 1) := by decide +kernel
theorem dX2_reason_68 : decode cX2_reason 68 = .ok (.aload_n 0, 1) := by decide +kernel
theorem dX2_reason_69 : decode cX2_reason 69 = .ok (.iload_n 3, 1) := by decide +kernel
theorem dX2_reason_70 : decode cX2_reason 70 = .ok (.iconst 0, 1) := by decide +kernel
theorem dX2_reason_71 : decode cX2_reason 71 = .ok (.invokevirtual 47, 3) := by decide +kernel
theorem dX2_reason_74 : decode cX2_reason 74 = .ok (.aload_n 0, 1) := by decide +kernel
theorem dX2_reason_75 : decode cX2_reason 75 = .ok (.iload_n 1, 1) := by decide +kernel
theorem dX2_reason_76 : decode cX2_reason 76 = .ok (.iconst 0, 1) := by decide +kernel
theorem dX2_reason_77 : decode cX2_reason 77 = .ok (.invokevirtual 47, 3) := by decide +kernel
theorem dX2_reason_80 : decode cX2_reason 80 = .ok (.if_icmp .le 7, 3) := by decide +kernel
theorem dX2_reason_83 : decode cX2_reason 83 = .ok (.iconst 5, 1) := by decide +kernel
theorem dX2_reason_84 : decode cX2_reason 84 = .ok (.goto 35, 3) := by decide +kernel
theorem dX2_reason_87 : decode cX2_reason 87 = .ok (.aload_n 0, 1) := by decide +kernel
theorem dX2_reason_88 : decode cX2_reason 88 = .ok (.getfield 7, 3) := by decide +kernel
theorem dX2_reason_91 : decode cX2_reason 91 = .ok (.iconst 4, 1) := by decide +kernel
theorem dX2_reason_92 : decode cX2_reason 92 = .ok (.iaload, 1) := by decide +kernel
theorem dX2_reason_93 : decode cX2_reason 93 = .ok (.aload_n 0, 1) := by decide +kernel
theorem dX2_reason_94 : decode cX2_reason 94 = .ok (.getfield 7, 3) := by decide +kernel
theorem dX2_reason_97 : decode cX2_reason 97 = .ok (.sipush 285, 3) := by decide +kernel
theorem dX2_reason_100 : decode cX2_reason 100 = .ok (.iload_n 2, 1) := by decide +kernel
theorem dX2_reason_101 : decode cX2_reason 101 = .ok (.iadd, 1) := by decide +kernel
theorem dX2_reason_102 : decode cX2_reason 102 = .ok (.iaload, 1) := by decide +kernel
theorem dX2_reason_103 : decode cX2_reason 103 = .ok (.isub, 1) := by decide +kernel
theorem dX2_reason_104 : decode cX2_reason 104 = .ok (.aload_n 0, 1) := by decide +kernel
theorem dX2_reason_105 : decode cX2_reason 105 = .ok (.getfield 7, 3) := by decide +kernel
theorem dX2_reason_108 : decode cX2_reason 108 = .ok (.iconst 3, 1) := by decide +kernel
theorem dX2_reason_109 : decode cX2_reason 109 = .ok (.iaload, 1) := by decide +kernel
theorem dX2_reason_110 : decode cX2_reason 110 = .ok (.if_icmp .ge 8, 3) := by decide +kernel
theorem dX2_reason_113 : decode cX2_reason 113 = .ok (.bipush 6, 2) := by decide +kernel
theorem dX2_reason_115 : decode cX2_reason 115 = .ok (.goto 4, 3) := by decide +kernel
theorem dX2_reason_118 : decode cX2_reason 118 = .ok (.iconst 0, 1) := by decide +kernel
theorem dX2_reason_119 : decode cX2_reason 119 = .ok (.ireturn, 1) := by decide +kernel
set_option maxRecDepth 20000 in
theorem ggX2_gives_X2_get : GoodIn wsX2_gives wsX2_get := goodIn_r _ [6, 1, 11, 12, 13, 14, 15, 16, 17, 18, 19, 20, 21, 22, 23] (by decide +kernel) (by decide +kernel)
set_option maxRecDepth 20000 in
theorem gX2_gives_X2_get : GoodIn wsX2_gives (wsV RX2 47 RX2 yX2_get wsX2_get) := goodIn_app (goodIn_of _ (by decide +kernel)) ggX2_gives_X2_get
set_option maxRecDepth 20000 in
theorem ggX2_gives_X2_lays : GoodIn wsX2_gives wsX2_lays := goodIn_r _ [10, 1, 11, 12, 13, 14, 15, 16, 17, 18, 19, 20, 21, 22, 23] (by decide +kernel) (by decide +kernel)
set_option maxRecDepth 20000 in
theorem gX2_gives_X2_lays : GoodIn wsX2_gives (wsV RX2 65 RX2 yX2_lays wsX2_lays) := goodIn_app (goodIn_of _ (by decide +kernel)) ggX2_gives_X2_lays
theorem dX2_gives_0 : decode cX2_gives 0 = .ok (.aload_n 0, 1) := by decide +kernel
theorem dX2_gives_1 : decode cX2_gives 1 = .ok (.getfield 7, 3) := by decide +kernel
theorem dX2_gives_4 : decode cX2_gives 4 = .ok (.sipush 249, 3) := by decide +kernel
theorem dX2_gives_7 : decode cX2_gives 7 = .ok (.iload_n 2, 1) := by decide +kernel
theorem dX2_gives_8 : decode cX2_gives 8 = .ok (.iadd, 1) := by decide +kernel
theorem dX2_gives_9 : decode cX2_gives 9 = .ok (.iload_n 1, 1) := by decide +kernel
theorem dX2_gives_10 : decode cX2_gives 10 = .ok (.iastore, 1) := by decide +kernel
theorem dX2_gives_11 : decode cX2_gives 11 = .ok (.aload_n 0, 1) := by decide +kernel
theorem dX2_gives_12 : decode cX2_gives 12 = .ok (.getfield 7, 3) := by decide +kernel
theorem dX2_gives_15 : decode cX2_gives 15 = .ok (.sipush 285, 3) := by decide +kernel
theorem dX2_gives_18 : decode cX2_gives 18 = .ok (.iload_n 2, 1) := by decide +kernel
theorem dX2_gives_19 : decode cX2_gives 19 = .ok (.iadd, 1) := by decide +kernel
theorem dX2_gives_20 : decode cX2_gives 20 = .ok (.aload_n 0, 1) := by decide +kernel
theorem dX2_gives_21 : decode cX2_gives 21 = .ok (.getfield 7, 3) := by decide +kernel
theorem dX2_gives_24 : decode cX2_gives 24 = .ok (.iconst 4, 1) := by decide +kernel
theorem dX2_gives_25 : decode cX2_gives 25 = .ok (.iaload, 1) := by decide +kernel
theorem dX2_gives_26 : decode cX2_gives 26 = .ok (.iastore, 1) := by decide +kernel
theorem dX2_gives_27 : decode cX2_gives 27 = .ok (.aload_n 0, 1) := by decide +kernel
theorem dX2_gives_28 : decode cX2_gives 28 = .ok (.getfield 7, 3) := by decide +kernel
theorem dX2_gives_31 : decode cX2_gives 31 = .ok (.sipush 297, 3) := by decide +kernel
theorem dX2_gives_34 : decode cX2_gives 34 = .ok (.iload_n 2, 1) := by decide +kernel
theorem dX2_gives_35 : decode cX2_gives 35 = .ok (.iadd, 1) := by decide +kernel
theorem dX2_gives_36 : decode cX2_gives 36 = .ok (.dup2, 1) := by decide +kernel
theorem dX2_gives_37 : decode cX2_gives 37 = .ok (.iaload, 1) := by decide +kernel
theorem dX2_gives_38 : decode cX2_gives 38 = .ok (.iconst 1, 1) := by decide +kernel
theorem dX2_gives_39 : decode cX2_gives 39 = .ok (.iadd, 1) := by decide +kernel
theorem dX2_gives_40 : decode cX2_gives 40 = .ok (.iastore, 1) := by decide +kernel
theorem dX2_gives_41 : decode cX2_gives 41 = .ok (.aload_n 0, 1) := by decide +kernel
theorem dX2_gives_42 : decode cX2_gives 42 = .ok (.getfield 7, 3) := by decide +kernel
theorem dX2_gives_45 : decode cX2_gives 45 = .ok (.sipush 261, 3) := by decide +kernel
theorem dX2_gives_48 : decode cX2_gives 48 = .ok (.iload_n 2, 1) := by decide +kernel
theorem dX2_gives_49 : decode cX2_gives 49 = .ok (.iadd, 1) := by decide +kernel
theorem dX2_gives_50 : decode cX2_gives 50 = .ok (.dup2, 1) := by decide +kernel
theorem dX2_gives_51 : decode cX2_gives 51 = .ok (.iaload, 1) := by decide +kernel
theorem dX2_gives_52 : decode cX2_gives 52 = .ok (.iconst 2, 1) := by decide +kernel
theorem dX2_gives_53 : decode cX2_gives 53 = .ok (.iadd, 1) := by decide +kernel
theorem dX2_gives_54 : decode cX2_gives 54 = .ok (.iastore, 1) := by decide +kernel
theorem dX2_gives_55 : decode cX2_gives 55 = .ok (.iload_n 2, 1) := by decide +kernel
theorem dX2_gives_56 : decode cX2_gives 56 = .ok (.ifCond .le 19, 3) := by decide +kernel
theorem dX2_gives_59 : decode cX2_gives 59 = .ok (.aload_n 0, 1) := by decide +kernel
theorem dX2_gives_60 : decode cX2_gives 60 = .ok (.getfield 7, 3) := by decide +kernel
theorem dX2_gives_63 : decode cX2_gives 63 = .ok (.sipush 261, 3) := by decide +kernel
theorem dX2_gives_66 : decode cX2_gives 66 = .ok (.iload_n 2, 1) := by decide +kernel
theorem dX2_gives_67 : decode cX2_gives 67 = .ok (.iadd, 1) := by decide +kernel
theorem dX2_gives_68 : decode cX2_gives 68 = .ok (.iconst 1, 1) := by decide +kernel
theorem dX2_gives_69 : decode cX2_gives 69 = .ok (.isub, 1) := by decide +kernel
theorem dX2_gives_70 : decode cX2_gives 70 = .ok (.dup2, 1) := by decide +kernel
theorem dX2_gives_71 : decode cX2_gives 71 = .ok (.iaload, 1) := by decide +kernel
theorem dX2_gives_72 : decode cX2_gives 72 = .ok (.iconst 1, 1) := by decide +kernel
theorem dX2_gives_73 : decode cX2_gives 73 = .ok (.iadd, 1) := by decide +kernel
theorem dX2_gives_74 : decode cX2_gives 74 = .ok (.iastore, 1) := by decide +kernel
theorem dX2_gives_75 : decode cX2_gives 75 = .ok (.iload_n 2, 1) := by decide +kernel
theorem dX2_gives_76 : decode cX2_gives 76 = .ok (.bipush 11, 2) := by decide +kernel
theorem dX2_gives_78 : decode cX2_gives 78 = .ok (.if_icmp .ge 19, 3) := by decide +kernel
theorem dX2_gives_81 : decode cX2_gives 81 = .ok (.aload_n 0, 1) := by decide +kernel
theorem dX2_gives_82 : decode cX2_gives 82 = .ok (.getfield 7, 3) := by decide +kernel
theorem dX2_gives_85 : decode cX2_gives 85 = .ok (.sipush 261, 3) := by decide +kernel
theorem dX2_gives_88 : decode cX2_gives 88 = .ok (.iload_n 2, 1) := by decide +kernel
theorem dX2_gives_89 : decode cX2_gives 89 = .ok (.iadd, 1) := by decide +kernel
theorem dX2_gives_90 : decode cX2_gives 90 = .ok (.iconst 1, 1) := by decide +kernel
theorem dX2_gives_91 : decode cX2_gives 91 = .ok (.iadd, 1) := by decide +kernel
theorem dX2_gives_92 : decode cX2_gives 92 = .ok (.dup2, 1) := by decide +kernel
theorem dX2_gives_93 : decode cX2_gives 93 = .ok (.iaload, 1) := by decide +kernel
theorem dX2_gives_94 : decode cX2_gives 94 = .ok (.iconst 1, 1) := by decide +kernel
theorem dX2_gives_95 : decode cX2_gives 95 = .ok (.iadd, 1) := by decide +kernel
theorem dX2_gives_96 : decode cX2_gives 96 = .ok (.iastore, 1) := by decide +kernel
theorem dX2_gives_97 : decode cX2_gives 97 = .ok (.aload_n 0, 1) := by decide +kernel
theorem dX2_gives_98 : decode cX2_gives 98 = .ok (.iload_n 1, 1) := by decide +kernel
theorem dX2_gives_99 : decode cX2_gives 99 = .ok (.iconst 2, 1) := by decide +kernel
theorem dX2_gives_100 : decode cX2_gives 100 = .ok (.aload_n 0, 1) := by decide +kernel
theorem dX2_gives_101 : decode cX2_gives 101 = .ok (.iload_n 1, 1) := by decide +kernel
theorem dX2_gives_102 : decode cX2_gives 102 = .ok (.iconst 2, 1) := by decide +kernel
theorem dX2_gives_103 : decode cX2_gives 103 = .ok (.invokevirtual 47, 3) := by decide +kernel
theorem dX2_gives_106 : decode cX2_gives 106 = .ok (.iconst 1, 1) := by decide +kernel
theorem dX2_gives_107 : decode cX2_gives 107 = .ok (.iadd, 1) := by decide +kernel
theorem dX2_gives_108 : decode cX2_gives 108 = .ok (.invokevirtual 65, 3) := by decide +kernel
theorem dX2_gives_111 : decode cX2_gives 111 = .ok (.aload_n 0, 1) := by decide +kernel
theorem dX2_gives_112 : decode cX2_gives 112 = .ok (.getfield 7, 3) := by decide +kernel
theorem dX2_gives_115 : decode cX2_gives 115 = .ok (.bipush 8, 2) := by decide +kernel
theorem dX2_gives_117 : decode cX2_gives 117 = .ok (.dup2, 1) := by decide +kernel
theorem dX2_gives_118 : decode cX2_gives 118 = .ok (.iaload, 1) := by decide +kernel
theorem dX2_gives_119 : decode cX2_gives 119 = .ok (.iconst 1, 1) := by decide +kernel
theorem dX2_gives_120 : decode cX2_gives 120 = .ok (.iadd, 1) := by decide +kernel
theorem dX2_gives_121 : decode cX2_gives 121 = .ok (.iastore, 1) := by decide +kernel
theorem dX2_gives_122 : decode cX2_gives 122 = .ok (.return_, 1) := by decide +kernel
theorem dX2_takesAway_0 : decode cX2_takesAway 0 = .ok (.aload_n 0, 1) := by decide +kernel
theorem dX2_takesAway_1 : decode cX2_takesAway 1 = .ok (.getfield 7, 3) := by decide +kernel
theorem dX2_takesAway_4 : decode cX2_takesAway 4 = .ok (.sipush 249, 3) := by decide +kernel
theorem dX2_takesAway_7 : decode cX2_takesAway 7 = .ok (.iload_n 1, 1) := by decide +kernel
theorem dX2_takesAway_8 : decode cX2_takesAway 8 = .ok (.iadd, 1) := by decide +kernel
theorem dX2_takesAway_9 : decode cX2_takesAway 9 = .ok (.bipush (-6), 2) := by decide +kernel
theorem dX2_takesAway_11 : decode cX2_takesAway 11 = .ok (.iastore, 1) := by decide +kernel
theorem dX2_takesAway_12 : decode cX2_takesAway 12 = .ok (.aload_n 0, 1) := by decide +kernel
theorem dX2_takesAway_13 : decode cX2_takesAway 13 = .ok (.getfield 7, 3) := by decide +kernel
theorem dX2_takesAway_16 : decode cX2_takesAway 16 = .ok (.sipush 285, 3) := by decide +kernel
theorem dX2_takesAway_19 : decode cX2_takesAway 19 = .ok (.iload_n 1, 1) := by decide +kernel
theorem dX2_takesAway_20 : decode cX2_takesAway 20 = .ok (.iadd, 1) := by decide +kernel
theorem dX2_takesAway_21 : decode cX2_takesAway 21 = .ok (.bipush (-6), 2) := by decide +kernel
theorem dX2_takesAway_23 : decode cX2_takesAway 23 = .ok (.iastore, 1) := by decide +kernel
theorem dX2_takesAway_24 : decode cX2_takesAway 24 = .ok (.return_, 1) := by decide +kernel
set_option maxRecDepth 20000 in
theorem ggX2_lowest_X2_reason : GoodIn wsX2_lowest wsX2_reason := goodIn_r _ [5, 6, 7, 8, 9, 4, 10, 11, 12, 13, 14, 15, 16, 17, 18, 19, 20, 21, 22, 23, 24, 25, 26, 27, 28, 29, 30, 31, 32, 33, 34, 35, 36, 37, 38] (by decide +kernel) (by decide +kernel)
set_option maxRecDepth 20000 in
theorem gX2_lowest_X2_reason : GoodIn wsX2_lowest (wsV RX2 69 RX2 yX2_reason wsX2_reason) := goodIn_app (goodIn_of _ (by decide +kernel)) ggX2_lowest_X2_reason
theorem dX2_lowest_0 : decode cX2_lowest 0 = .ok (.iconst 0, 1) := by decide +kernel
theorem dX2_lowest_1 : decode cX2_lowest 1 = .ok (.istore_n 2, 1) := by decide +kernel
theorem dX2_lowest_2 : decode cX2_lowest 2 = .ok (.iload_n 2, 1) := by decide +kernel
theorem dX2_lowest_3 : decode cX2_lowest 3 = .ok (.bipush 12, 2) := by decide +kernel
theorem dX2_lowest_5 : decode cX2_lowest 5 = .ok (.if_icmp .ge 20, 3) := by decide +kernel
theorem dX2_lowest_8 : decode cX2_lowest 8 = .ok (.aload_n 0, 1) := by decide +kernel
theorem dX2_lowest_9 : decode cX2_lowest 9 = .ok (.iload_n 1, 1) := by decide +kernel
theorem dX2_lowest_10 : decode cX2_lowest 10 = .ok (.iload_n 2, 1) := by decide +kernel
theorem dX2_lowest_11 : decode cX2_lowest 11 = .ok (.invokevirtual 69, 3) := by decide +kernel
theorem dX2_lowest_14 : decode cX2_lowest 14 = .ok (.ifCond .ne 5, 3) := by decide +kernel
theorem dX2_lowest_17 : decode cX2_lowest 17 = .ok (.iload_n 2, 1) := by decide +kernel
theorem dX2_lowest_18 : decode cX2_lowest 18 = .ok (.ireturn, 1) := by decide +kernel
theorem dX2_lowest_19 : decode cX2_lowest 19 = .ok (.iinc 2 1, 3) := by decide +kernel
theorem dX2_lowest_22 : decode cX2_lowest 22 = .ok (.goto (-20), 3) := by decide +kernel
theorem dX2_lowest_25 : decode cX2_lowest 25 = .ok (.bipush (-6), 2) := by decide +kernel
theorem dX2_lowest_27 : decode cX2_lowest 27 = .ok (.ireturn, 1) := by decide +kernel
theorem dX2_sum_0 : decode cX2_sum 0 = .ok (.iconst 0, 1) := by decide +kernel
theorem dX2_sum_1 : decode cX2_sum 1 = .ok (.istore_n 2, 1) := by decide +kernel
theorem dX2_sum_2 : decode cX2_sum 2 = .ok (.iconst 0, 1) := by decide +kernel
theorem dX2_sum_3 : decode cX2_sum 3 = .ok (.istore_n 3, 1) := by decide +kernel
theorem dX2_sum_4 : decode cX2_sum 4 = .ok (.iload_n 3, 1) := by decide +kernel
theorem dX2_sum_5 : decode cX2_sum 5 = .ok (.bipush 12, 2) := by decide +kernel
theorem dX2_sum_7 : decode cX2_sum 7 = .ok (.if_icmp .ge 20, 3) := by decide +kernel
theorem dX2_sum_10 : decode cX2_sum 10 = .ok (.iload_n 2, 1) := by decide +kernel
theorem dX2_sum_11 : decode cX2_sum 11 = .ok (.aload_n 0, 1) := by decide +kernel
theorem dX2_sum_12 : decode cX2_sum 12 = .ok (.getfield 7, 3) := by decide +kernel
theorem dX2_sum_15 : decode cX2_sum 15 = .ok (.iload_n 1, 1) := by decide +kernel
theorem dX2_sum_16 : decode cX2_sum 16 = .ok (.iload_n 3, 1) := by decide +kernel
theorem dX2_sum_17 : decode cX2_sum 17 = .ok (.iadd, 1) := by decide +kernel
theorem dX2_sum_18 : decode cX2_sum 18 = .ok (.iaload, 1) := by decide +kernel
theorem dX2_sum_19 : decode cX2_sum 19 = .ok (.iadd, 1) := by decide +kernel
theorem dX2_sum_20 : decode cX2_sum 20 = .ok (.istore_n 2, 1) := by decide +kernel
theorem dX2_sum_21 : decode cX2_sum 21 = .ok (.iinc 3 1, 3) := by decide +kernel
theorem dX2_sum_24 : decode cX2_sum 24 = .ok (.goto (-20), 3) := by decide +kernel
theorem dX2_sum_27 : decode cX2_sum 27 = .ok (.iload_n 2, 1) := by decide +kernel
theorem dX2_sum_28 : decode cX2_sum 28 = .ok (.ireturn, 1) := by decide +kernel
set_option maxRecDepth 20000 in
theorem ggX2_nextGiven_X2_whereIs : GoodIn wsX2_nextGiven wsX2_whereIs := goodIn_r _ [6, 7, 8, 9, 5, 10, 1, 11, 12, 13, 14, 38, 39, 40, 41, 42, 43, 44, 45, 46, 47, 48, 49, 50] (by decide +kernel) (by decide +kernel)
set_option maxRecDepth 20000 in
theorem gX2_nextGiven_X2_whereIs : GoodIn wsX2_nextGiven (wsV RX2 72 RX2 yX2_whereIs wsX2_whereIs) := goodIn_app (goodIn_of _ (by decide +kernel)) ggX2_nextGiven_X2_whereIs
set_option maxRecDepth 20000 in
theorem ggX2_nextGiven_X2_comesFirst : GoodIn wsX2_nextGiven wsX2_comesFirst := goodIn_r _ [18, 7, 8, 9, 5, 10, 1, 38, 39, 40, 41, 42, 43, 44, 45, 46, 47, 48, 49, 50] (by decide +kernel) (by decide +kernel)
set_option maxRecDepth 20000 in
theorem gX2_nextGiven_X2_comesFirst : GoodIn wsX2_nextGiven (wsV RX2 75 RX2 yX2_comesFirst wsX2_comesFirst) := goodIn_app (goodIn_of _ (by decide +kernel)) ggX2_nextGiven_X2_comesFirst
set_option maxRecDepth 20000 in
theorem ggX2_nextGiven_X2_lowest : GoodIn wsX2_nextGiven wsX2_lowest := goodIn_r _ [22, 23, 24, 25, 5, 26, 1, 7, 8, 9, 10, 11, 12, 13, 14, 27, 28, 29, 30, 31, 32, 33, 34, 35, 36, 37, 38, 39, 40, 41, 42, 43, 44, 45, 46, 47, 48, 49, 50] (by decide +kernel) (by decide +kernel)
set_option maxRecDepth 20000 in
theorem gX2_nextGiven_X2_lowest : GoodIn wsX2_nextGiven (wsV RX2 78 RX2 yX2_lowest wsX2_lowest) := goodIn_app (goodIn_of _ (by decide +kernel)) ggX2_nextGiven_X2_lowest
theorem dX2_nextGiven_0 : decode cX2_nextGiven 0 = .ok (.bipush (-6), 2) := by decide +kernel
theorem dX2_nextGiven_2 : decode cX2_nextGiven 2 = .ok (.istore_n 1, 1) := by decide +kernel
theorem dX2_nextGiven_3 : decode cX2_nextGiven 3 = .ok (.iconst 0, 1) := by decide +kernel
theorem dX2_nextGiven_4 : decode cX2_nextGiven 4 = .ok (.istore_n 2, 1) := by decide +kernel
theorem dX2_nextGiven_5 : decode cX2_nextGiven 5 = .ok (.iload_n 2, 1) := by decide +kernel
theorem dX2_nextGiven_6 : decode cX2_nextGiven 6 = .ok (.aload_n 0, 1) := by decide +kernel
theorem dX2_nextGiven_7 : decode cX2_nextGiven 7 = .ok (.getfield 7, 3) := by decide +kernel
theorem dX2_nextGiven_10 : decode cX2_nextGiven 10 = .ok (.iconst 5, 1) := by decide +kernel
theorem dX2_nextGiven_11 : decode cX2_nextGiven 11 = .ok (.iaload, 1) := by decide +kernel
theorem dX2_nextGiven_12 : decode cX2_nextGiven 12 = .ok (.if_icmp .ge 58, 3) := by decide +kernel
theorem dX2_nextGiven_15 : decode cX2_nextGiven 15 = .ok (.aload_n 0, 1) := by decide +kernel
theorem dX2_nextGiven_16 : decode cX2_nextGiven 16 = .ok (.iload_n 2, 1) := by decide +kernel
theorem dX2_nextGiven_17 : decode cX2_nextGiven 17 = .ok (.invokevirtual 72, 3) := by decide +kernel
theorem dX2_nextGiven_20 : decode cX2_nextGiven 20 = .ok (.ifCond .ne 32, 3) := by decide +kernel
theorem dX2_nextGiven_23 : decode cX2_nextGiven 23 = .ok (.iload_n 1, 1) := by decide +kernel
theorem dX2_nextGiven_24 : decode cX2_nextGiven 24 = .ok (.bipush (-6), 2) := by decide +kernel
theorem dX2_nextGiven_26 : decode cX2_nextGiven 26 = .ok (.if_icmp .eq 12, 3) := by decide +kernel
theorem dX2_nextGiven_29 : decode cX2_nextGiven 29 = .ok (.aload_n 0, 1) := by decide +kernel
theorem dX2_nextGiven_30 : decode cX2_nextGiven 30 = .ok (.iload_n 2, 1) := by decide +kernel
theorem dX2_nextGiven_31 : decode cX2_nextGiven 31 = .ok (.iload_n 1, 1) := by decide +kernel
theorem dX2_nextGiven_32 : decode cX2_nextGiven 32 = .ok (.invokevirtual 75, 3) := by decide +kernel
theorem dX2_nextGiven_35 : decode cX2_nextGiven 35 = .ok (.ifCond .eq 17, 3) := by decide +kernel
theorem dX2_nextGiven_38 : decode cX2_nextGiven 38 = .ok (.aload_n 0, 1) := by decide +kernel
theorem dX2_nextGiven_39 : decode cX2_nextGiven 39 = .ok (.iload_n 2, 1) := by decide +kernel
theorem dX2_nextGiven_40 : decode cX2_nextGiven 40 = .ok (.invokevirtual 78, 3) := by decide +kernel
theorem dX2_nextGiven_43 : decode cX2_nextGiven 43 = .ok (.bipush (-6), 2) := by decide +kernel
theorem dX2_nextGiven_45 : decode cX2_nextGiven 45 = .ok (.if_icmp .eq 7, 3) := by decide +kernel
theorem dX2_nextGiven_48 : decode cX2_nextGiven 48 = .ok (.iconst 1, 1) := by decide +kernel
theorem dX2_nextGiven_49 : decode cX2_nextGiven 49 = .ok (.goto 4, 3) := by decide +kernel
theorem dX2_nextGiven_52 : decode cX2_nextGiven 52 = .ok (.iconst 0, 1) := by decide +kernel
theorem dX2_nextGiven_53 : decode cX2_nextGiven 53 = .ok (.istore_n 3, 1) := by decide +kernel
theorem dX2_nextGiven_54 : decode cX2_nextGiven 54 = .ok (.iload_n 3, 1) := by decide +kernel
theorem dX2_nextGiven_55 : decode cX2_nextGiven 55 = .ok (.ifCond .eq 7, 3) := by decide +kernel
theorem dX2_nextGiven_58 : decode cX2_nextGiven 58 = .ok (.iload_n 2, 1) := by decide +kernel
theorem dX2_nextGiven_59 : decode cX2_nextGiven 59 = .ok (.goto 4, 3) := by decide +kernel
theorem dX2_nextGiven_62 : decode cX2_nextGiven 62 = .ok (.iload_n 1, 1) := by decide +kernel
theorem dX2_nextGiven_63 : decode cX2_nextGiven 63 = .ok (.istore_n 1, 1) := by decide +kernel
theorem dX2_nextGiven_64 : decode cX2_nextGiven 64 = .ok (.iinc 2 1, 3) := by decide +kernel
theorem dX2_nextGiven_67 : decode cX2_nextGiven 67 = .ok (.goto (-62), 3) := by decide +kernel
theorem dX2_nextGiven_70 : decode cX2_nextGiven 70 = .ok (.iload_n 1, 1) := by decide +kernel
theorem dX2_nextGiven_71 : decode cX2_nextGiven 71 = .ok (.ireturn, 1) := by decide +kernel
theorem dX2_setsUp_0 : decode cX2_setsUp 0 = .ok (.iconst 0, 1) := by decide +kernel
theorem dX2_setsUp_1 : decode cX2_setsUp 1 = .ok (.istore_n 1, 1) := by decide +kernel
theorem dX2_setsUp_2 : decode cX2_setsUp 2 = .ok (.iconst 1, 1) := by decide +kernel
theorem dX2_setsUp_3 : decode cX2_setsUp 3 = .ok (.istore_n 2, 1) := by decide +kernel
theorem dX2_setsUp_4 : decode cX2_setsUp 4 = .ok (.iload_n 2, 1) := by decide +kernel
theorem dX2_setsUp_5 : decode cX2_setsUp 5 = .ok (.bipush 12, 2) := by decide +kernel
theorem dX2_setsUp_7 : decode cX2_setsUp 7 = .ok (.if_icmp .ge 38, 3) := by decide +kernel
theorem dX2_setsUp_10 : decode cX2_setsUp 10 = .ok (.aload_n 0, 1) := by decide +kernel
theorem dX2_setsUp_11 : decode cX2_setsUp 11 = .ok (.getfield 7, 3) := by decide +kernel
theorem dX2_setsUp_14 : decode cX2_setsUp 14 = .ok (.sipush 261, 3) := by decide +kernel
theorem dX2_setsUp_17 : decode cX2_setsUp 17 = .ok (.iload_n 2, 1) := by decide +kernel
theorem dX2_setsUp_18 : decode cX2_setsUp 18 = .ok (.iadd, 1) := by decide +kernel
theorem dX2_setsUp_19 : decode cX2_setsUp 19 = .ok (.iaload, 1) := by decide +kernel
theorem dX2_setsUp_20 : decode cX2_setsUp 20 = .ok (.aload_n 0, 1) := by decide +kernel
theorem dX2_setsUp_21 : decode cX2_setsUp 21 = .ok (.getfield 7, 3) := by decide +kernel
theorem dX2_setsUp_24 : decode cX2_setsUp 24 = .ok (.sipush 261, 3) := by decide +kernel
theorem dX2_setsUp_27 : decode cX2_setsUp 27 = .ok (.iload_n 1, 1) := by decide +kernel
theorem dX2_setsUp_28 : decode cX2_setsUp 28 = .ok (.iadd, 1) := by decide +kernel
theorem dX2_setsUp_29 : decode cX2_setsUp 29 = .ok (.iaload, 1) := by decide +kernel
theorem dX2_setsUp_30 : decode cX2_setsUp 30 = .ok (.if_icmp .le 7, 3) := by decide +kernel
theorem dX2_setsUp_33 : decode cX2_setsUp 33 = .ok (.iload_n 2, 1) := by decide +kernel
theorem dX2_setsUp_34 : decode cX2_setsUp 34 = .ok (.goto 4, 3) := by decide +kernel
theorem dX2_setsUp_37 : decode cX2_setsUp 37 = .ok (.iload_n 1, 1) := by decide +kernel
theorem dX2_setsUp_38 : decode cX2_setsUp 38 = .ok (.istore_n 1, 1) := by decide +kernel
theorem dX2_setsUp_39 : decode cX2_setsUp 39 = .ok (.iinc 2 1, 3) := by decide +kernel
theorem dX2_setsUp_42 : decode cX2_setsUp 42 = .ok (.goto (-38), 3) := by decide +kernel
theorem dX2_setsUp_45 : decode cX2_setsUp 45 = .ok (.aload_n 0, 1) := by decide +kernel
theorem dX2_setsUp_46 : decode cX2_setsUp 46 = .ok (.getfield 7, 3) := by decide +kernel
theorem dX2_setsUp_49 : decode cX2_setsUp 49 = .ok (.sipush 261, 3) := by decide +kernel
theorem dX2_setsUp_52 : decode cX2_setsUp 52 = .ok (.iload_n 1, 1) := by decide +kernel
theorem dX2_setsUp_53 : decode cX2_setsUp 53 = .ok (.iadd, 1) := by decide +kernel
theorem dX2_setsUp_54 : decode cX2_setsUp 54 = .ok (.iaload, 1) := by decide +kernel
theorem dX2_setsUp_55 : decode cX2_setsUp 55 = .ok (.ifCond .le 42, 3) := by decide +kernel
theorem dX2_setsUp_58 : decode cX2_setsUp 58 = .ok (.aload_n 0, 1) := by decide +kernel
theorem dX2_setsUp_59 : decode cX2_setsUp 59 = .ok (.getfield 7, 3) := by decide +kernel
theorem dX2_setsUp_62 : decode cX2_setsUp 62 = .ok (.sipush 261, 3) := by decide +kernel
theorem dX2_setsUp_65 : decode cX2_setsUp 65 = .ok (.iload_n 1, 1) := by decide +kernel
theorem dX2_setsUp_66 : decode cX2_setsUp 66 = .ok (.iadd, 1) := by decide +kernel
theorem dX2_setsUp_67 : decode cX2_setsUp 67 = .ok (.dup2, 1) := by decide +kernel
theorem dX2_setsUp_68 : decode cX2_setsUp 68 = .ok (.iaload, 1) := by decide +kernel
theorem dX2_setsUp_69 : decode cX2_setsUp 69 = .ok (.iconst 1, 1) := by decide +kernel
theorem dX2_setsUp_70 : decode cX2_setsUp 70 = .ok (.isub, 1) := by decide +kernel
theorem dX2_setsUp_71 : decode cX2_setsUp 71 = .ok (.iastore, 1) := by decide +kernel
theorem dX2_setsUp_72 : decode cX2_setsUp 72 = .ok (.aload_n 0, 1) := by decide +kernel
theorem dX2_setsUp_73 : decode cX2_setsUp 73 = .ok (.getfield 7, 3) := by decide +kernel
theorem dX2_setsUp_76 : decode cX2_setsUp 76 = .ok (.sipush 273, 3) := by decide +kernel
theorem dX2_setsUp_79 : decode cX2_setsUp 79 = .ok (.iload_n 1, 1) := by decide +kernel
theorem dX2_setsUp_80 : decode cX2_setsUp 80 = .ok (.iadd, 1) := by decide +kernel
theorem dX2_setsUp_81 : decode cX2_setsUp 81 = .ok (.dup2, 1) := by decide +kernel
theorem dX2_setsUp_82 : decode cX2_setsUp 82 = .ok (.iaload, 1) := by decide +kernel
theorem dX2_setsUp_83 : decode cX2_setsUp 83 = .ok (.iconst 1, 1) := by decide +kernel
theorem dX2_setsUp_84 : decode cX2_setsUp 84 = .ok (.iadd, 1) := by decide +kernel
theorem dX2_setsUp_85 : decode cX2_setsUp 85 = .ok (.iastore, 1) := by decide +kernel
theorem dX2_setsUp_86 : decode cX2_setsUp 86 = .ok (.aload_n 0, 1) := by decide +kernel
theorem dX2_setsUp_87 : decode cX2_setsUp 87 = .ok (.getfield 7, 3) := by decide +kernel
theorem dX2_setsUp_90 : decode cX2_setsUp 90 = .ok (.bipush 7, 2) := by decide +kernel
theorem dX2_setsUp_92 : decode cX2_setsUp 92 = .ok (.dup2, 1) := by decide +kernel
theorem dX2_setsUp_93 : decode cX2_setsUp 93 = .ok (.iaload, 1) := by decide +kernel
theorem dX2_setsUp_94 : decode cX2_setsUp 94 = .ok (.iconst 1, 1) := by decide +kernel
theorem dX2_setsUp_95 : decode cX2_setsUp 95 = .ok (.iadd, 1) := by decide +kernel
theorem dX2_setsUp_96 : decode cX2_setsUp 96 = .ok (.iastore, 1) := by decide +kernel
theorem dX2_setsUp_97 : decode cX2_setsUp 97 = .ok (.return_, 1) := by decide +kernel
set_option maxRecDepth 20000 in
theorem ggX2_day_X2_nextGiven : GoodIn wsX2_day wsX2_nextGiven := goodIn_r _ [6, 1, 7, 8, 9, 5, 10, 11, 12, 13, 14, 15, 16, 17, 18, 19, 20, 21, 22, 23, 24, 25, 26, 27, 28, 29, 30, 31, 32, 33, 34, 35, 36, 37, 38, 39, 40, 41, 54, 55, 56, 57, 58, 59, 60, 61, 62, 63, 64, 65, 66] (by decide +kernel) (by decide +kernel)
set_option maxRecDepth 20000 in
theorem gX2_day_X2_nextGiven : GoodIn wsX2_day (wsV RX2 81 RX2 yX2_nextGiven wsX2_nextGiven) := goodIn_app (goodIn_of _ (by decide +kernel)) ggX2_day_X2_nextGiven
set_option maxRecDepth 20000 in
theorem ggX2_day_X2_lowest : GoodIn wsX2_day wsX2_lowest := goodIn_r _ [26, 27, 28, 29, 5, 30, 1, 11, 12, 13, 14, 15, 16, 17, 18, 31, 32, 33, 34, 35, 36, 37, 38, 39, 40, 41, 54, 55, 56, 57, 58, 59, 60, 61, 62, 63, 64, 65, 66] (by decide +kernel) (by decide +kernel)
set_option maxRecDepth 20000 in
theorem gX2_day_X2_lowest : GoodIn wsX2_day (wsV RX2 78 RX2 yX2_lowest wsX2_lowest) := goodIn_app (goodIn_of _ (by decide +kernel)) ggX2_day_X2_lowest
set_option maxRecDepth 20000 in
theorem ggX2_day_X2_gives : GoodIn wsX2_day wsX2_gives := goodIn_r _ [45, 1, 11, 12, 13, 5, 14, 46, 47, 48, 49, 54, 55, 56, 57, 58, 59, 60, 61, 62, 63, 64, 65, 66] (by decide +kernel) (by decide +kernel)
set_option maxRecDepth 20000 in
theorem gX2_day_X2_gives : GoodIn wsX2_day (wsV RX2 85 RX2 yX2_gives wsX2_gives) := goodIn_app (goodIn_of _ (by decide +kernel)) ggX2_day_X2_gives
set_option maxRecDepth 20000 in
theorem ggX2_day_X2_setsUp : GoodIn wsX2_day wsX2_setsUp := goodIn_r _ [53, 1, 54, 55, 56, 57, 58, 59, 60, 61, 62, 63, 64, 65, 66] (by decide +kernel) (by decide +kernel)
set_option maxRecDepth 20000 in
theorem gX2_day_X2_setsUp : GoodIn wsX2_day (wsV RX2 89 RX2 yX2_setsUp wsX2_setsUp) := goodIn_app (goodIn_of _ (by decide +kernel)) ggX2_day_X2_setsUp
theorem dX2_day_0 : decode cX2_day 0 = .ok (.aload_n 0, 1) := by decide +kernel
theorem dX2_day_1 : decode cX2_day 1 = .ok (.invokevirtual 81, 3) := by decide +kernel
theorem dX2_day_4 : decode cX2_day 4 = .ok (.istore_n 1, 1) := by decide +kernel
theorem dX2_day_5 : decode cX2_day 5 = .ok (.iload_n 1, 1) := by decide +kernel
theorem dX2_day_6 : decode cX2_day 6 = .ok (.bipush (-6), 2) := by decide +kernel
theorem dX2_day_8 : decode cX2_day 8 = .ok (.if_icmp .eq 13, 3) := by decide +kernel
theorem dX2_day_11 : decode cX2_day 11 = .ok (.aload_n 0, 1) := by decide +kernel
theorem dX2_day_12 : decode cX2_day 12 = .ok (.iload_n 1, 1) := by decide +kernel
theorem dX2_day_13 : decode cX2_day 13 = .ok (.aload_n 0, 1) := by decide +kernel
theorem dX2_day_14 : decode cX2_day 14 = .ok (.iload_n 1, 1) := by decide +kernel
theorem dX2_day_15 : decode cX2_day 15 = .ok (.invokevirtual 78, 3) := by decide +kernel
theorem dX2_day_18 : decode cX2_day 18 = .ok (.invokevirtual 85, 3) := by decide +kernel
theorem dX2_day_21 : decode cX2_day 21 = .ok (.iconst 0, 1) := by decide +kernel
theorem dX2_day_22 : decode cX2_day 22 = .ok (.istore_n 2, 1) := by decide +kernel
theorem dX2_day_23 : decode cX2_day 23 = .ok (.iload_n 2, 1) := by decide +kernel
theorem dX2_day_24 : decode cX2_day 24 = .ok (.aload_n 0, 1) := by decide +kernel
theorem dX2_day_25 : decode cX2_day 25 = .ok (.getfield 7, 3) := by decide +kernel
theorem dX2_day_28 : decode cX2_day 28 = .ok (.iconst 2, 1) := by decide +kernel
theorem dX2_day_29 : decode cX2_day 29 = .ok (.iaload, 1) := by decide +kernel
theorem dX2_day_30 : decode cX2_day 30 = .ok (.if_icmp .ge 13, 3) := by decide +kernel
theorem dX2_day_33 : decode cX2_day 33 = .ok (.aload_n 0, 1) := by decide +kernel
theorem dX2_day_34 : decode cX2_day 34 = .ok (.invokevirtual 89, 3) := by decide +kernel
theorem dX2_day_37 : decode cX2_day 37 = .ok (.iinc 2 1, 3) := by decide +kernel
theorem dX2_day_40 : decode cX2_day 40 = .ok (.goto (-17), 3) := by decide +kernel
theorem dX2_day_43 : decode cX2_day 43 = .ok (.aload_n 0, 1) := by decide +kernel
theorem dX2_day_44 : decode cX2_day 44 = .ok (.getfield 7, 3) := by decide +kernel
theorem dX2_day_47 : decode cX2_day 47 = .ok (.iconst 4, 1) := by decide +kernel
theorem dX2_day_48 : decode cX2_day 48 = .ok (.dup2, 1) := by decide +kernel
theorem dX2_day_49 : decode cX2_day 49 = .ok (.iaload, 1) := by decide +kernel
theorem dX2_day_50 : decode cX2_day 50 = .ok (.iconst 1, 1) := by decide +kernel
theorem dX2_day_51 : decode cX2_day 51 = .ok (.iadd, 1) := by decide +kernel
theorem dX2_day_52 : decode cX2_day 52 = .ok (.iastore, 1) := by decide +kernel
theorem dX2_day_53 : decode cX2_day 53 = .ok (.return_, 1) := by decide +kernel
set_option maxRecDepth 20000 in
theorem ggX2_isSetting_X2_in : GoodIn wsX2_isSetting wsX2_in := goodIn_r _ [8] (by decide +kernel) (by decide +kernel)
set_option maxRecDepth 20000 in
theorem gX2_isSetting_X2_in : GoodIn wsX2_isSetting (va_wsS RX2 41 yX2_in wsX2_in) := goodIn_app (goodIn_of _ (by decide +kernel)) ggX2_isSetting_X2_in
theorem dX2_isSetting_0 : decode cX2_isSetting 0 = .ok (.iload_n 0, 1) := by decide +kernel
theorem dX2_isSetting_1 : decode cX2_isSetting 1 = .ok (.tableswitch 71 0 3 #[31, 41, 51, 61], 31) := by decide +kernel
theorem dX2_isSetting_32 : decode cX2_isSetting 32 = .ok (.iload_n 1, 1) := by decide +kernel
theorem dX2_isSetting_33 : decode cX2_isSetting 33 = .ok (.i2l, 1) := by decide +kernel
theorem dX2_isSetting_34 : decode cX2_isSetting 34 = .ok (.lconst 0, 1) := by decide +kernel
theorem dX2_isSetting_35 : decode cX2_isSetting 35 = .ok (.ldc2_w 45, 3) := by decide +kernel
theorem dX2_isSetting_38 : decode cX2_isSetting 38 = .ok (.invokestatic 41, 3) := by decide +kernel
theorem dX2_isSetting_41 : decode cX2_isSetting 41 = .ok (.ireturn, 1) := by decide +kernel
theorem dX2_isSetting_42 : decode cX2_isSetting 42 = .ok (.iload_n 1, 1) := by decide +kernel
theorem dX2_isSetting_43 : decode cX2_isSetting 43 = .ok (.i2l, 1) := by decide +kernel
theorem dX2_isSetting_44 : decode cX2_isSetting 44 = .ok (.lconst 1, 1) := by decide +kernel
theorem dX2_isSetting_45 : decode cX2_isSetting 45 = .ok (.ldc2_w 92, 3) := by decide +kernel
theorem dX2_isSetting_48 : decode cX2_isSetting 48 = .ok (.invokestatic 41, 3) := by decide +kernel
theorem dX2_isSetting_51 : decode cX2_isSetting 51 = .ok (.ireturn, 1) := by decide +kernel
theorem dX2_isSetting_52 : decode cX2_isSetting 52 = .ok (.iload_n 1, 1) := by decide +kernel
theorem dX2_isSetting_53 : decode cX2_isSetting 53 = .ok (.i2l, 1) := by decide +kernel
theorem dX2_isSetting_54 : decode cX2_isSetting 54 = .ok (.lconst 0, 1) := by decide +kernel
theorem dX2_isSetting_55 : decode cX2_isSetting 55 = .ok (.ldc2_w 94, 3) := by decide +kernel
theorem dX2_isSetting_58 : decode cX2_isSetting 58 = .ok (.invokestatic 41, 3) := by decide +kernel
theorem dX2_isSetting_61 : decode cX2_isSetting 61 = .ok (.ireturn, 1) := by decide +kernel
theorem dX2_isSetting_62 : decode cX2_isSetting 62 = .ok (.iload_n 1, 1) := by decide +kernel
theorem dX2_isSetting_63 : decode cX2_isSetting 63 = .ok (.i2l, 1) := by decide +kernel
theorem dX2_isSetting_64 : decode cX2_isSetting 64 = .ok (.lconst 0, 1) := by decide +kernel
theorem dX2_isSetting_65 : decode cX2_isSetting 65 = .ok (.ldc2_w 96, 3) := by decide +kernel
theorem dX2_isSetting_68 : decode cX2_isSetting 68 = .ok (.invokestatic 41, 3) := by decide +kernel
theorem dX2_isSetting_71 : decode cX2_isSetting 71 = .ok (.ireturn, 1) := by decide +kernel
theorem dX2_isSetting_72 : decode cX2_isSetting 72 = .ok (.iconst 0, 1) := by decide +kernel
theorem dX2_isSetting_73 : decode cX2_isSetting 73 = .ok (.ireturn, 1) := by decide +kernel
set_option maxRecDepth 20000 in
theorem ggX2_set_X2_isSetting : GoodIn wsX2_set wsX2_isSetting := goodIn_r _ [5, 6, 7, 8, 9, 10, 11, 4, 12] (by decide +kernel) (by decide +kernel)
set_option maxRecDepth 20000 in
theorem gX2_set_X2_isSetting : GoodIn wsX2_set (va_wsS RX2 98 yX2_isSetting wsX2_isSetting) := goodIn_app (goodIn_of _ (by decide +kernel)) ggX2_set_X2_isSetting
set_option maxRecDepth 20000 in
theorem ggX2_set_X2_changes : GoodIn wsX2_set wsX2_changes := goodIn_r _ [16, 17, 18, 1, 19, 20, 21, 22, 23, 24, 25, 26, 27, 28, 29, 30, 31] (by decide +kernel) (by decide +kernel)
set_option maxRecDepth 20000 in
theorem gX2_set_X2_changes : GoodIn wsX2_set (wsV RX2 101 RX2 yX2_changes wsX2_changes) := goodIn_app (goodIn_of _ (by decide +kernel)) ggX2_set_X2_changes
theorem dX2_set_0 : decode cX2_set 0 = .ok (.iload_n 1, 1) := by decide +kernel
theorem dX2_set_1 : decode cX2_set 1 = .ok (.iload_n 2, 1) := by decide +kernel
theorem dX2_set_2 : decode cX2_set 2 = .ok (.invokestatic 98, 3) := by decide +kernel
theorem dX2_set_5 : decode cX2_set 5 = .ok (.ifCond .ne 6, 3) := by decide +kernel
theorem dX2_set_8 : decode cX2_set 8 = .ok (.bipush (-2), 2) := by decide +kernel
theorem dX2_set_10 : decode cX2_set 10 = .ok (.ireturn, 1) := by decide +kernel
theorem dX2_set_11 : decode cX2_set 11 = .ok (.aload_n 0, 1) := by decide +kernel
theorem dX2_set_12 : decode cX2_set 12 = .ok (.invokevirtual 101, 3) := by decide +kernel
theorem dX2_set_15 : decode cX2_set 15 = .ok (.aload_n 0, 1) := by decide +kernel
theorem dX2_set_16 : decode cX2_set 16 = .ok (.getfield 7, 3) := by decide +kernel
theorem dX2_set_19 : decode cX2_set 19 = .ok (.iload_n 1, 1) := by decide +kernel
theorem dX2_set_20 : decode cX2_set 20 = .ok (.iaload, 1) := by decide +kernel
theorem dX2_set_21 : decode cX2_set 21 = .ok (.istore_n 3, 1) := by decide +kernel
theorem dX2_set_22 : decode cX2_set 22 = .ok (.aload_n 0, 1) := by decide +kernel
theorem dX2_set_23 : decode cX2_set 23 = .ok (.getfield 7, 3) := by decide +kernel
theorem dX2_set_26 : decode cX2_set 26 = .ok (.iload_n 1, 1) := by decide +kernel
theorem dX2_set_27 : decode cX2_set 27 = .ok (.iload_n 2, 1) := by decide +kernel
theorem dX2_set_28 : decode cX2_set 28 = .ok (.iastore, 1) := by decide +kernel
theorem dX2_set_29 : decode cX2_set 29 = .ok (.iload_n 3, 1) := by decide +kernel
theorem dX2_set_30 : decode cX2_set 30 = .ok (.ireturn, 1) := by decide +kernel
set_option maxRecDepth 20000 in
theorem ggX2_honour_X2_isName : GoodIn wsX2_honour wsX2_isName := goodIn_r _ [6, 7, 8, 9, 5, 10, 25, 26, 27, 28, 29, 30, 31, 32, 33, 34, 35, 36, 37] (by decide +kernel) (by decide +kernel)
set_option maxRecDepth 20000 in
theorem gX2_honour_X2_isName : GoodIn wsX2_honour (wsV RX2 104 RX2 yX2_isName wsX2_isName) := goodIn_app (goodIn_of _ (by decide +kernel)) ggX2_honour_X2_isName
set_option maxRecDepth 20000 in
theorem ggX2_honour_X2_in : GoodIn wsX2_honour wsX2_in := goodIn_r _ [10] (by decide +kernel) (by decide +kernel)
set_option maxRecDepth 20000 in
theorem gX2_honour_X2_in : GoodIn wsX2_honour (va_wsS RX2 41 yX2_in wsX2_in) := goodIn_app (goodIn_of _ (by decide +kernel)) ggX2_honour_X2_in
set_option maxRecDepth 20000 in
theorem ggX2_honour_X2_changes : GoodIn wsX2_honour wsX2_changes := goodIn_r _ [14, 15, 16, 7, 25, 26, 27, 28, 29, 30, 31, 32, 33, 34, 35, 36, 37] (by decide +kernel) (by decide +kernel)
set_option maxRecDepth 20000 in
theorem gX2_honour_X2_changes : GoodIn wsX2_honour (wsV RX2 101 RX2 yX2_changes wsX2_changes) := goodIn_app (goodIn_of _ (by decide +kernel)) ggX2_honour_X2_changes
set_option maxRecDepth 20000 in
theorem ggX2_honour_X2_get : GoodIn wsX2_honour wsX2_get := goodIn_r _ [20, 7, 25, 26, 27, 28, 29, 30, 31, 32, 33, 34, 35, 36, 37] (by decide +kernel) (by decide +kernel)
set_option maxRecDepth 20000 in
theorem gX2_honour_X2_get : GoodIn wsX2_honour (wsV RX2 47 RX2 yX2_get wsX2_get) := goodIn_app (goodIn_of _ (by decide +kernel)) ggX2_honour_X2_get
set_option maxRecDepth 20000 in
theorem ggX2_honour_X2_lays : GoodIn wsX2_honour wsX2_lays := goodIn_r _ [24, 7, 25, 26, 27, 28, 29, 30, 31, 32, 33, 34, 35, 36, 37] (by decide +kernel) (by decide +kernel)
set_option maxRecDepth 20000 in
theorem gX2_honour_X2_lays : GoodIn wsX2_honour (wsV RX2 65 RX2 yX2_lays wsX2_lays) := goodIn_app (goodIn_of _ (by decide +kernel)) ggX2_honour_X2_lays
theorem dX2_honour_0 : decode cX2_honour 0 = .ok (.aload_n 0, 1) := by decide +kernel
theorem dX2_honour_1 : decode cX2_honour 1 = .ok (.iload_n 1, 1) := by decide +kernel
theorem dX2_honour_2 : decode cX2_honour 2 = .ok (.invokevirtual 104, 3) := by decide +kernel
theorem dX2_honour_5 : decode cX2_honour 5 = .ok (.ifCond .ne 5, 3) := by decide +kernel
theorem dX2_honour_8 : decode cX2_honour 8 = .ok (.iconst (-1), 1) := by decide +kernel
theorem dX2_honour_9 : decode cX2_honour 9 = .ok (.ireturn, 1) := by decide +kernel
theorem dX2_honour_10 : decode cX2_honour 10 = .ok (.iload_n 2, 1) := by decide +kernel
theorem dX2_honour_11 : decode cX2_honour 11 = .ok (.i2l, 1) := by decide +kernel
theorem dX2_honour_12 : decode cX2_honour 12 = .ok (.lconst 0, 1) := by decide +kernel
theorem dX2_honour_13 : decode cX2_honour 13 = .ok (.ldc2_w 94, 3) := by decide +kernel
theorem dX2_honour_16 : decode cX2_honour 16 = .ok (.invokestatic 41, 3) := by decide +kernel
theorem dX2_honour_19 : decode cX2_honour 19 = .ok (.ifCond .ne 6, 3) := by decide +kernel
theorem dX2_honour_22 : decode cX2_honour 22 = .ok (.bipush (-2), 2) := by decide +kernel
theorem dX2_honour_24 : decode cX2_honour 24 = .ok (.ireturn, 1) := by decide +kernel
theorem dX2_honour_25 : decode cX2_honour 25 = .ok (.aload_n 0, 1) := by decide +kernel
theorem dX2_honour_26 : decode cX2_honour 26 = .ok (.invokevirtual 101, 3) := by decide +kernel
theorem dX2_honour_29 : decode cX2_honour 29 = .ok (.aload_n 0, 1) := by decide +kernel
theorem dX2_honour_30 : decode cX2_honour 30 = .ok (.iload_n 1, 1) := by decide +kernel
theorem dX2_honour_31 : decode cX2_honour 31 = .ok (.iconst 0, 1) := by decide +kernel
theorem dX2_honour_32 : decode cX2_honour 32 = .ok (.invokevirtual 47, 3) := by decide +kernel
theorem dX2_honour_35 : decode cX2_honour 35 = .ok (.istore_n 3, 1) := by decide +kernel
theorem dX2_honour_36 : decode cX2_honour 36 = .ok (.aload_n 0, 1) := by decide +kernel
theorem dX2_honour_37 : decode cX2_honour 37 = .ok (.iload_n 1, 1) := by decide +kernel
theorem dX2_honour_38 : decode cX2_honour 38 = .ok (.iconst 0, 1) := by decide +kernel
theorem dX2_honour_39 : decode cX2_honour 39 = .ok (.iload_n 2, 1) := by decide +kernel
theorem dX2_honour_40 : decode cX2_honour 40 = .ok (.invokevirtual 65, 3) := by decide +kernel
theorem dX2_honour_43 : decode cX2_honour 43 = .ok (.iload_n 3, 1) := by decide +kernel
theorem dX2_honour_44 : decode cX2_honour 44 = .ok (.ireturn, 1) := by decide +kernel
set_option maxRecDepth 20000 in
theorem ggX2_withdraw_X2_isName : GoodIn wsX2_withdraw wsX2_isName := goodIn_r _ [5, 6, 7, 8, 4, 9, 35, 36, 37, 38, 39, 40, 41, 42, 43, 44, 45, 46, 47] (by decide +kernel) (by decide +kernel)
set_option maxRecDepth 20000 in
theorem gX2_withdraw_X2_isName : GoodIn wsX2_withdraw (wsV RX2 104 RX2 yX2_isName wsX2_isName) := goodIn_app (goodIn_of _ (by decide +kernel)) ggX2_withdraw_X2_isName
set_option maxRecDepth 20000 in
theorem ggX2_withdraw_X2_get : GoodIn wsX2_withdraw wsX2_get := goodIn_r _ [13, 6, 35, 36, 37, 38, 39, 40, 41, 42, 43, 44, 45, 46, 47] (by decide +kernel) (by decide +kernel)
set_option maxRecDepth 20000 in
theorem gX2_withdraw_X2_get : GoodIn wsX2_withdraw (wsV RX2 47 RX2 yX2_get wsX2_get) := goodIn_app (goodIn_of _ (by decide +kernel)) ggX2_withdraw_X2_get
set_option maxRecDepth 20000 in
theorem ggX2_withdraw_X2_changes : GoodIn wsX2_withdraw wsX2_changes := goodIn_r _ [17, 18, 19, 6, 35, 36, 37, 38, 39, 40, 41, 42, 43, 44, 45, 46, 47] (by decide +kernel) (by decide +kernel)
set_option maxRecDepth 20000 in
theorem gX2_withdraw_X2_changes : GoodIn wsX2_withdraw (wsV RX2 101 RX2 yX2_changes wsX2_changes) := goodIn_app (goodIn_of _ (by decide +kernel)) ggX2_withdraw_X2_changes
set_option maxRecDepth 20000 in
theorem ggX2_withdraw_X2_bearers : GoodIn wsX2_withdraw wsX2_bearers := goodIn_r _ [23, 6, 35, 36, 37, 38, 39, 40, 41, 42, 43, 44, 45, 46, 47] (by decide +kernel) (by decide +kernel)
set_option maxRecDepth 20000 in
theorem gX2_withdraw_X2_bearers : GoodIn wsX2_withdraw (wsV RX2 51 RX2 yX2_bearers wsX2_bearers) := goodIn_app (goodIn_of _ (by decide +kernel)) ggX2_withdraw_X2_bearers
set_option maxRecDepth 20000 in
theorem ggX2_withdraw_X2_takesAway : GoodIn wsX2_withdraw wsX2_takesAway := goodIn_r _ [27, 6, 35, 36, 37, 38, 39, 40, 41, 42, 43, 44, 45, 46, 47] (by decide +kernel) (by decide +kernel)
set_option maxRecDepth 20000 in
theorem gX2_withdraw_X2_takesAway : GoodIn wsX2_withdraw (wsV RX2 108 RX2 yX2_takesAway wsX2_takesAway) := goodIn_app (goodIn_of _ (by decide +kernel)) ggX2_withdraw_X2_takesAway
set_option maxRecDepth 20000 in
theorem ggX2_withdraw_X2_lays : GoodIn wsX2_withdraw wsX2_lays := goodIn_r _ [31, 6, 35, 36, 37, 38, 39, 40, 41, 42, 43, 44, 45, 46, 47] (by decide +kernel) (by decide +kernel)
set_option maxRecDepth 20000 in
theorem gX2_withdraw_X2_lays : GoodIn wsX2_withdraw (wsV RX2 65 RX2 yX2_lays wsX2_lays) := goodIn_app (goodIn_of _ (by decide +kernel)) ggX2_withdraw_X2_lays
set_option maxRecDepth 20000 in
theorem ggX2_withdraw_X2_bits : GoodIn wsX2_withdraw wsX2_bits := goodIn_r _ [34] (by decide +kernel) (by decide +kernel)
set_option maxRecDepth 20000 in
theorem gX2_withdraw_X2_bits : GoodIn wsX2_withdraw (va_wsS RX2 59 yX2_bits wsX2_bits) := goodIn_app (goodIn_of _ (by decide +kernel)) ggX2_withdraw_X2_bits
theorem dX2_withdraw_0 : decode cX2_withdraw 0 = .ok (.aload_n 0, 1) := by decide +kernel
theorem dX2_withdraw_1 : decode cX2_withdraw 1 = .ok (.iload_n 1, 1) := by decide +kernel
theorem dX2_withdraw_2 : decode cX2_withdraw 2 = .ok (.invokevirtual 104, 3) := by decide +kernel
theorem dX2_withdraw_5 : decode cX2_withdraw 5 = .ok (.ifCond .ne 5, 3) := by decide +kernel
theorem dX2_withdraw_8 : decode cX2_withdraw 8 = .ok (.iconst (-1), 1) := by decide +kernel
theorem dX2_withdraw_9 : decode cX2_withdraw 9 = .ok (.ireturn, 1) := by decide +kernel
theorem dX2_withdraw_10 : decode cX2_withdraw 10 = .ok (.aload_n 0, 1) := by decide +kernel
theorem dX2_withdraw_11 : decode cX2_withdraw 11 = .ok (.iload_n 1, 1) := by decide +kernel
theorem dX2_withdraw_12 : decode cX2_withdraw 12 = .ok (.iconst 1, 1) := by decide +kernel
theorem dX2_withdraw_13 : decode cX2_withdraw 13 = .ok (.invokevirtual 47, 3) := by decide +kernel
theorem dX2_withdraw_16 : decode cX2_withdraw 16 = .ok (.iconst 1, 1) := by decide +kernel
theorem dX2_withdraw_17 : decode cX2_withdraw 17 = .ok (.if_icmp .ne 6, 3) := by decide +kernel
theorem dX2_withdraw_20 : decode cX2_withdraw 20 = .ok (.bipush (-5), 2) := by decide +kernel
theorem dX2_withdraw_22 : decode cX2_withdraw 22 = .ok (.ireturn, 1) := by decide +kernel
theorem dX2_withdraw_23 : decode cX2_withdraw 23 = .ok (.aload_n 0, 1) := by decide +kernel
theorem dX2_withdraw_24 : decode cX2_withdraw 24 = .ok (.invokevirtual 101, 3) := by decide +kernel
theorem dX2_withdraw_27 : decode cX2_withdraw 27 = .ok (.aload_n 0, 1) := by decide +kernel
theorem dX2_withdraw_28 : decode cX2_withdraw 28 = .ok (.iload_n 1, 1) := by decide +kernel
theorem dX2_withdraw_29 : decode cX2_withdraw 29 = .ok (.invokevirtual 51, 3) := by decide +kernel
theorem dX2_withdraw_32 : decode cX2_withdraw 32 = .ok (.istore_n 2, 1) := by decide +kernel
theorem dX2_withdraw_33 : decode cX2_withdraw 33 = .ok (.iconst 0, 1) := by decide +kernel
theorem dX2_withdraw_34 : decode cX2_withdraw 34 = .ok (.istore_n 3, 1) := by decide +kernel
theorem dX2_withdraw_35 : decode cX2_withdraw 35 = .ok (.iload_n 3, 1) := by decide +kernel
theorem dX2_withdraw_36 : decode cX2_withdraw 36 = .ok (.bipush 12, 2) := by decide +kernel
theorem dX2_withdraw_38 : decode cX2_withdraw 38 = .ok (.if_icmp .ge 23, 3) := by decide +kernel
theorem dX2_withdraw_41 : decode cX2_withdraw 41 = .ok (.iload_n 2, 1) := by decide +kernel
theorem dX2_withdraw_42 : decode cX2_withdraw 42 = .ok (.iload_n 3, 1) := by decide +kernel
theorem dX2_withdraw_43 : decode cX2_withdraw 43 = .ok (.ishr, 1) := by decide +kernel
theorem dX2_withdraw_44 : decode cX2_withdraw 44 = .ok (.iconst 1, 1) := by decide +kernel
theorem dX2_withdraw_45 : decode cX2_withdraw 45 = .ok (.iand, 1) := by decide +kernel
theorem dX2_withdraw_46 : decode cX2_withdraw 46 = .ok (.iconst 1, 1) := by decide +kernel
theorem dX2_withdraw_47 : decode cX2_withdraw 47 = .ok (.if_icmp .ne 8, 3) := by decide +kernel
theorem dX2_withdraw_50 : decode cX2_withdraw 50 = .ok (.aload_n 0, 1) := by decide +kernel
theorem dX2_withdraw_51 : decode cX2_withdraw 51 = .ok (.iload_n 3, 1) := by decide +kernel
theorem dX2_withdraw_52 : decode cX2_withdraw 52 = .ok (.invokevirtual 108, 3) := by decide +kernel
theorem dX2_withdraw_55 : decode cX2_withdraw 55 = .ok (.iinc 3 1, 3) := by decide +kernel
theorem dX2_withdraw_58 : decode cX2_withdraw 58 = .ok (.goto (-23), 3) := by decide +kernel
theorem dX2_withdraw_61 : decode cX2_withdraw 61 = .ok (.aload_n 0, 1) := by decide +kernel
theorem dX2_withdraw_62 : decode cX2_withdraw 62 = .ok (.iload_n 1, 1) := by decide +kernel
theorem dX2_withdraw_63 : decode cX2_withdraw 63 = .ok (.iconst 1, 1) := by decide +kernel
theorem dX2_withdraw_64 : decode cX2_withdraw 64 = .ok (.iconst 1, 1) := by decide +kernel
theorem dX2_withdraw_65 : decode cX2_withdraw 65 = .ok (.invokevirtual 65, 3) := by decide +kernel
theorem dX2_withdraw_68 : decode cX2_withdraw 68 = .ok (.iload_n 2, 1) := by decide +kernel
theorem dX2_withdraw_69 : decode cX2_withdraw 69 = .ok (.invokestatic 59, 3) := by decide +kernel
theorem dX2_withdraw_72 : decode cX2_withdraw 72 = .ok (.ireturn, 1) := by decide +kernel
set_option maxRecDepth 20000 in
theorem ggX2_give_X2_isName : GoodIn wsX2_give wsX2_isName := goodIn_r _ [6, 1, 7, 8, 5, 9, 51, 52, 53, 54, 55, 56, 57, 58, 59, 60, 61, 62, 63] (by decide +kernel) (by decide +kernel)
set_option maxRecDepth 20000 in
theorem gX2_give_X2_isName : GoodIn wsX2_give (wsV RX2 104 RX2 yX2_isName wsX2_isName) := goodIn_app (goodIn_of _ (by decide +kernel)) ggX2_give_X2_isName
set_option maxRecDepth 20000 in
theorem ggX2_give_X2_isCorner : GoodIn wsX2_give wsX2_isCorner := goodIn_r _ [12, 13, 7, 8, 5, 9] (by decide +kernel) (by decide +kernel)
set_option maxRecDepth 20000 in
theorem gX2_give_X2_isCorner : GoodIn wsX2_give (va_wsS RX2 112 yX2_isCorner wsX2_isCorner) := goodIn_app (goodIn_of _ (by decide +kernel)) ggX2_give_X2_isCorner
set_option maxRecDepth 20000 in
theorem ggX2_give_X2_reason : GoodIn wsX2_give wsX2_reason := goodIn_r _ [17, 1, 18, 19, 20, 5, 21, 22, 23, 24, 25, 26, 27, 28, 29, 30, 31, 32, 33, 34, 35, 36, 51, 52, 53, 54, 55, 56, 57, 58, 59, 60, 61, 62, 63] (by decide +kernel) (by decide +kernel)
set_option maxRecDepth 20000 in
theorem gX2_give_X2_reason : GoodIn wsX2_give (wsV RX2 69 RX2 yX2_reason wsX2_reason) := goodIn_app (goodIn_of _ (by decide +kernel)) ggX2_give_X2_reason
set_option maxRecDepth 20000 in
theorem ggX2_give_X2_changes : GoodIn wsX2_give wsX2_changes := goodIn_r _ [40, 41, 42, 1, 51, 52, 53, 54, 55, 56, 57, 58, 59, 60, 61, 62, 63] (by decide +kernel) (by decide +kernel)
set_option maxRecDepth 20000 in
theorem gX2_give_X2_changes : GoodIn wsX2_give (wsV RX2 101 RX2 yX2_changes wsX2_changes) := goodIn_app (goodIn_of _ (by decide +kernel)) ggX2_give_X2_changes
set_option maxRecDepth 20000 in
theorem ggX2_give_X2_gives : GoodIn wsX2_give wsX2_gives := goodIn_r _ [46, 1, 18, 19, 20, 5, 21, 47, 48, 49, 50, 51, 52, 53, 54, 55, 56, 57, 58, 59, 60, 61, 62, 63] (by decide +kernel) (by decide +kernel)
set_option maxRecDepth 20000 in
theorem gX2_give_X2_gives : GoodIn wsX2_give (wsV RX2 85 RX2 yX2_gives wsX2_gives) := goodIn_app (goodIn_of _ (by decide +kernel)) ggX2_give_X2_gives
theorem dX2_give_0 : decode cX2_give 0 = .ok (.aload_n 0, 1) := by decide +kernel
theorem dX2_give_1 : decode cX2_give 1 = .ok (.iload_n 1, 1) := by decide +kernel
theorem dX2_give_2 : decode cX2_give 2 = .ok (.invokevirtual 104, 3) := by decide +kernel
theorem dX2_give_5 : decode cX2_give 5 = .ok (.ifCond .eq 10, 3) := by decide +kernel
theorem dX2_give_8 : decode cX2_give 8 = .ok (.iload_n 2, 1) := by decide +kernel
theorem dX2_give_9 : decode cX2_give 9 = .ok (.invokestatic 112, 3) := by decide +kernel
theorem dX2_give_12 : decode cX2_give 12 = .ok (.ifCond .ne 5, 3) := by decide +kernel
theorem dX2_give_15 : decode cX2_give 15 = .ok (.iconst (-1), 1) := by decide +kernel
theorem dX2_give_16 : decode cX2_give 16 = .ok (.ireturn, 1) := by decide +kernel
theorem dX2_give_17 : decode cX2_give 17 = .ok (.aload_n 0, 1) := by decide +kernel
theorem dX2_give_18 : decode cX2_give 18 = .ok (.iload_n 1, 1) := by decide +kernel
theorem dX2_give_19 : decode cX2_give 19 = .ok (.iload_n 2, 1) := by decide +kernel
theorem dX2_give_20 : decode cX2_give 20 = .ok (.invokevirtual 69, 3) := by decide +kernel
theorem dX2_give_23 : decode cX2_give 23 = .ok (.ifCond .eq 6, 3) := by decide +kernel
theorem dX2_give_26 : decode cX2_give 26 = .ok (.bipush (-5), 2) := by decide +kernel
theorem dX2_give_28 : decode cX2_give 28 = .ok (.ireturn, 1) := by decide +kernel
theorem dX2_give_29 : decode cX2_give 29 = .ok (.aload_n 0, 1) := by decide +kernel
theorem dX2_give_30 : decode cX2_give 30 = .ok (.invokevirtual 101, 3) := by decide +kernel
theorem dX2_give_33 : decode cX2_give 33 = .ok (.aload_n 0, 1) := by decide +kernel
theorem dX2_give_34 : decode cX2_give 34 = .ok (.iload_n 1, 1) := by decide +kernel
theorem dX2_give_35 : decode cX2_give 35 = .ok (.iload_n 2, 1) := by decide +kernel
theorem dX2_give_36 : decode cX2_give 36 = .ok (.invokevirtual 85, 3) := by decide +kernel
theorem dX2_give_39 : decode cX2_give 39 = .ok (.aload_n 0, 1) := by decide +kernel
theorem dX2_give_40 : decode cX2_give 40 = .ok (.getfield 7, 3) := by decide +kernel
theorem dX2_give_43 : decode cX2_give 43 = .ok (.sipush 261, 3) := by decide +kernel
theorem dX2_give_46 : decode cX2_give 46 = .ok (.iload_n 2, 1) := by decide +kernel
theorem dX2_give_47 : decode cX2_give 47 = .ok (.iadd, 1) := by decide +kernel
theorem dX2_give_48 : decode cX2_give 48 = .ok (.iaload, 1) := by decide +kernel
theorem dX2_give_49 : decode cX2_give 49 = .ok (.ireturn, 1) := by decide +kernel
set_option maxRecDepth 20000 in
theorem ggX2_strip_X2_isCorner : GoodIn wsX2_strip wsX2_isCorner := goodIn_r _ [5, 6, 7, 8, 4, 9] (by decide +kernel) (by decide +kernel)
set_option maxRecDepth 20000 in
theorem gX2_strip_X2_isCorner : GoodIn wsX2_strip (va_wsS RX2 112 yX2_isCorner wsX2_isCorner) := goodIn_app (goodIn_of _ (by decide +kernel)) ggX2_strip_X2_isCorner
set_option maxRecDepth 20000 in
theorem ggX2_strip_X2_changes : GoodIn wsX2_strip wsX2_changes := goodIn_r _ [13, 14, 15, 1, 20, 21, 22, 23, 24, 25, 26, 27, 28, 29, 30, 31, 32] (by decide +kernel) (by decide +kernel)
set_option maxRecDepth 20000 in
theorem gX2_strip_X2_changes : GoodIn wsX2_strip (wsV RX2 101 RX2 yX2_changes wsX2_changes) := goodIn_app (goodIn_of _ (by decide +kernel)) ggX2_strip_X2_changes
set_option maxRecDepth 20000 in
theorem ggX2_strip_X2_takesAway : GoodIn wsX2_strip wsX2_takesAway := goodIn_r _ [19, 1, 20, 21, 22, 23, 24, 25, 26, 27, 28, 29, 30, 31, 32] (by decide +kernel) (by decide +kernel)
set_option maxRecDepth 20000 in
theorem gX2_strip_X2_takesAway : GoodIn wsX2_strip (wsV RX2 108 RX2 yX2_takesAway wsX2_takesAway) := goodIn_app (goodIn_of _ (by decide +kernel)) ggX2_strip_X2_takesAway
theorem dX2_strip_0 : decode cX2_strip 0 = .ok (.iload_n 1, 1) := by decide +kernel
theorem dX2_strip_1 : decode cX2_strip 1 = .ok (.invokestatic 112, 3) := by decide +kernel
theorem dX2_strip_4 : decode cX2_strip 4 = .ok (.ifCond .ne 5, 3) := by decide +kernel
theorem dX2_strip_7 : decode cX2_strip 7 = .ok (.iconst (-1), 1) := by decide +kernel
theorem dX2_strip_8 : decode cX2_strip 8 = .ok (.ireturn, 1) := by decide +kernel
theorem dX2_strip_9 : decode cX2_strip 9 = .ok (.aload_n 0, 1) := by decide +kernel
theorem dX2_strip_10 : decode cX2_strip 10 = .ok (.getfield 7, 3) := by decide +kernel
theorem dX2_strip_13 : decode cX2_strip 13 = .ok (.sipush 249, 3) := by decide +kernel
theorem dX2_strip_16 : decode cX2_strip 16 = .ok (.iload_n 1, 1) := by decide +kernel
theorem dX2_strip_17 : decode cX2_strip 17 = .ok (.iadd, 1) := by decide +kernel
theorem dX2_strip_18 : decode cX2_strip 18 = .ok (.iaload, 1) := by decide +kernel
theorem dX2_strip_19 : decode cX2_strip 19 = .ok (.istore_n 2, 1) := by decide +kernel
theorem dX2_strip_20 : decode cX2_strip 20 = .ok (.iload_n 2, 1) := by decide +kernel
theorem dX2_strip_21 : decode cX2_strip 21 = .ok (.bipush (-6), 2) := by decide +kernel
theorem dX2_strip_23 : decode cX2_strip 23 = .ok (.if_icmp .ne 6, 3) := by decide +kernel
theorem dX2_strip_26 : decode cX2_strip 26 = .ok (.bipush (-5), 2) := by decide +kernel
theorem dX2_strip_28 : decode cX2_strip 28 = .ok (.ireturn, 1) := by decide +kernel
theorem dX2_strip_29 : decode cX2_strip 29 = .ok (.aload_n 0, 1) := by decide +kernel
theorem dX2_strip_30 : decode cX2_strip 30 = .ok (.invokevirtual 101, 3) := by decide +kernel
theorem dX2_strip_33 : decode cX2_strip 33 = .ok (.aload_n 0, 1) := by decide +kernel
theorem dX2_strip_34 : decode cX2_strip 34 = .ok (.iload_n 1, 1) := by decide +kernel
theorem dX2_strip_35 : decode cX2_strip 35 = .ok (.invokevirtual 108, 3) := by decide +kernel
theorem dX2_strip_38 : decode cX2_strip 38 = .ok (.aload_n 0, 1) := by decide +kernel
theorem dX2_strip_39 : decode cX2_strip 39 = .ok (.getfield 7, 3) := by decide +kernel
theorem dX2_strip_42 : decode cX2_strip 42 = .ok (.sipush 261, 3) := by decide +kernel
theorem dX2_strip_45 : decode cX2_strip 45 = .ok (.iload_n 1, 1) := by decide +kernel
theorem dX2_strip_46 : decode cX2_strip 46 = .ok (.iadd, 1) := by decide +kernel
theorem dX2_strip_47 : decode cX2_strip 47 = .ok (.dup2, 1) := by decide +kernel
theorem dX2_strip_48 : decode cX2_strip 48 = .ok (.iaload, 1) := by decide +kernel
theorem dX2_strip_49 : decode cX2_strip 49 = .ok (.iconst 1, 1) := by decide +kernel
theorem dX2_strip_50 : decode cX2_strip 50 = .ok (.iadd, 1) := by decide +kernel
theorem dX2_strip_51 : decode cX2_strip 51 = .ok (.iastore, 1) := by decide +kernel
theorem dX2_strip_52 : decode cX2_strip 52 = .ok (.iload_n 2, 1) := by decide +kernel
theorem dX2_strip_53 : decode cX2_strip 53 = .ok (.ireturn, 1) := by decide +kernel
theorem dX2_wrongCorners_0 : decode cX2_wrongCorners 0 = .ok (.iconst 0, 1) := by decide +kernel
theorem dX2_wrongCorners_1 : decode cX2_wrongCorners 1 = .ok (.istore_n 1, 1) := by decide +kernel
theorem dX2_wrongCorners_2 : decode cX2_wrongCorners 2 = .ok (.iconst 0, 1) := by decide +kernel
theorem dX2_wrongCorners_3 : decode cX2_wrongCorners 3 = .ok (.istore_n 2, 1) := by decide +kernel
theorem dX2_wrongCorners_4 : decode cX2_wrongCorners 4 = .ok (.iload_n 2, 1) := by decide +kernel
theorem dX2_wrongCorners_5 : decode cX2_wrongCorners 5 = .ok (.bipush 12, 2) := by decide +kernel
theorem dX2_wrongCorners_7 : decode cX2_wrongCorners 7 = .ok (.if_icmp .ge 40, 3) := by decide +kernel
theorem dX2_wrongCorners_10 : decode cX2_wrongCorners 10 = .ok (.iload_n 1, 1) := by decide +kernel
theorem dX2_wrongCorners_11 : decode cX2_wrongCorners 11 = .ok (.aload_n 0, 1) := by decide +kernel
theorem dX2_wrongCorners_12 : decode cX2_wrongCorners 12 = .ok (.getfield 7, 3) := by decide +kernel
theorem dX2_wrongCorners_15 : decode cX2_wrongCorners 15 = .ok (.sipush 249, 3) := by decide +kernel
theorem dX2_wrongCorners_18 : decode cX2_wrongCorners 18 = .ok (.iload_n 2, 1) := by decide +kernel
theorem dX2_wrongCorners_19 : decode cX2_wrongCorners 19 = .ok (.iadd, 1) := by decide +kernel
theorem dX2_wrongCorners_20 : decode cX2_wrongCorners 20 = .ok (.iaload, 1) := by decide +kernel
theorem dX2_wrongCorners_21 : decode cX2_wrongCorners 21 = .ok (.aload_n 0, 1) := by decide +kernel
theorem dX2_wrongCorners_22 : decode cX2_wrongCorners 22 = .ok (.getfield 7, 3) := by decide +kernel
theorem dX2_wrongCorners_25 : decode cX2_wrongCorners 25 = .ok (.sipush 309, 3) := by decide +kernel
theorem dX2_wrongCorners_28 : decode cX2_wrongCorners 28 = .ok (.iload_n 2, 1) := by decide +kernel
theorem dX2_wrongCorners_29 : decode cX2_wrongCorners 29 = .ok (.iadd, 1) := by decide +kernel
theorem dX2_wrongCorners_30 : decode cX2_wrongCorners 30 = .ok (.iaload, 1) := by decide +kernel
theorem dX2_wrongCorners_31 : decode cX2_wrongCorners 31 = .ok (.if_icmp .ne 7, 3) := by decide +kernel
theorem dX2_wrongCorners_34 : decode cX2_wrongCorners 34 = .ok (.iconst 0, 1) := by decide +kernel
theorem dX2_wrongCorners_35 : decode cX2_wrongCorners 35 = .ok (.goto 4, 3) := by decide +kernel
theorem dX2_wrongCorners_38 : decode cX2_wrongCorners 38 = .ok (.iconst 1, 1) := by decide +kernel
theorem dX2_wrongCorners_39 : decode cX2_wrongCorners 39 = .ok (.iadd, 1) := by decide +kernel
theorem dX2_wrongCorners_40 : decode cX2_wrongCorners 40 = .ok (.istore_n 1, 1) := by decide +kernel
theorem dX2_wrongCorners_41 : decode cX2_wrongCorners 41 = .ok (.iinc 2 1, 3) := by decide +kernel
theorem dX2_wrongCorners_44 : decode cX2_wrongCorners 44 = .ok (.goto (-40), 3) := by decide +kernel
theorem dX2_wrongCorners_47 : decode cX2_wrongCorners 47 = .ok (.aload_n 0, 1) := by decide +kernel
theorem dX2_wrongCorners_48 : decode cX2_wrongCorners 48 = .ok (.getfield 7, 3) := by decide +kernel
theorem dX2_wrongCorners_51 : decode cX2_wrongCorners 51 = .ok (.bipush 6, 2) := by decide +kernel
theorem dX2_wrongCorners_53 : decode cX2_wrongCorners 53 = .ok (.iaload, 1) := by decide +kernel
theorem dX2_wrongCorners_54 : decode cX2_wrongCorners 54 = .ok (.iconst 1, 1) := by decide +kernel
theorem dX2_wrongCorners_55 : decode cX2_wrongCorners 55 = .ok (.if_icmp .ne 7, 3) := by decide +kernel
theorem dX2_wrongCorners_58 : decode cX2_wrongCorners 58 = .ok (.iload_n 1, 1) := by decide +kernel
theorem dX2_wrongCorners_59 : decode cX2_wrongCorners 59 = .ok (.goto 5, 3) := by decide +kernel
theorem dX2_wrongCorners_62 : decode cX2_wrongCorners 62 = .ok (.bipush (-6), 2) := by decide +kernel
theorem dX2_wrongCorners_64 : decode cX2_wrongCorners 64 = .ok (.ireturn, 1) := by decide +kernel
set_option maxRecDepth 20000 in
theorem ggX2_issue_X2_changes : GoodIn wsX2_issue wsX2_changes := goodIn_r _ [6, 7, 8, 1, 13, 14, 15, 16, 17, 18, 19, 20, 21, 22, 23, 24, 25] (by decide +kernel) (by decide +kernel)
set_option maxRecDepth 20000 in
theorem gX2_issue_X2_changes : GoodIn wsX2_issue (wsV RX2 101 RX2 yX2_changes wsX2_changes) := goodIn_app (goodIn_of _ (by decide +kernel)) ggX2_issue_X2_changes
set_option maxRecDepth 20000 in
theorem ggX2_issue_X2_wrongCorners : GoodIn wsX2_issue wsX2_wrongCorners := goodIn_r _ [12, 1, 13, 14, 15, 16, 17, 18, 19, 20, 21, 22, 23, 24, 25] (by decide +kernel) (by decide +kernel)
set_option maxRecDepth 20000 in
theorem gX2_issue_X2_wrongCorners : GoodIn wsX2_issue (wsV RX2 115 RX2 yX2_wrongCorners wsX2_wrongCorners) := goodIn_app (goodIn_of _ (by decide +kernel)) ggX2_issue_X2_wrongCorners
theorem dX2_issue_0 : decode cX2_issue 0 = .ok (.aload_n 0, 1) := by decide +kernel
theorem dX2_issue_1 : decode cX2_issue 1 = .ok (.invokevirtual 101, 3) := by decide +kernel
theorem dX2_issue_4 : decode cX2_issue 4 = .ok (.aload_n 0, 1) := by decide +kernel
theorem dX2_issue_5 : decode cX2_issue 5 = .ok (.invokevirtual 115, 3) := by decide +kernel
theorem dX2_issue_8 : decode cX2_issue 8 = .ok (.istore_n 1, 1) := by decide +kernel
theorem dX2_issue_9 : decode cX2_issue 9 = .ok (.aload_n 0, 1) := by decide +kernel
theorem dX2_issue_10 : decode cX2_issue 10 = .ok (.getfield 7, 3) := by decide +kernel
theorem dX2_issue_13 : decode cX2_issue 13 = .ok (.bipush 6, 2) := by decide +kernel
theorem dX2_issue_15 : decode cX2_issue 15 = .ok (.iconst 1, 1) := by decide +kernel
theorem dX2_issue_16 : decode cX2_issue 16 = .ok (.iastore, 1) := by decide +kernel
theorem dX2_issue_17 : decode cX2_issue 17 = .ok (.iconst 0, 1) := by decide +kernel
theorem dX2_issue_18 : decode cX2_issue 18 = .ok (.istore_n 2, 1) := by decide +kernel
theorem dX2_issue_19 : decode cX2_issue 19 = .ok (.iload_n 2, 1) := by decide +kernel
theorem dX2_issue_20 : decode cX2_issue 20 = .ok (.bipush 12, 2) := by decide +kernel
theorem dX2_issue_22 : decode cX2_issue 22 = .ok (.if_icmp .ge 29, 3) := by decide +kernel
theorem dX2_issue_25 : decode cX2_issue 25 = .ok (.aload_n 0, 1) := by decide +kernel
theorem dX2_issue_26 : decode cX2_issue 26 = .ok (.getfield 7, 3) := by decide +kernel
theorem dX2_issue_29 : decode cX2_issue 29 = .ok (.sipush 309, 3) := by decide +kernel
theorem dX2_issue_32 : decode cX2_issue 32 = .ok (.iload_n 2, 1) := by decide +kernel
theorem dX2_issue_33 : decode cX2_issue 33 = .ok (.iadd, 1) := by decide +kernel
theorem dX2_issue_34 : decode cX2_issue 34 = .ok (.aload_n 0, 1) := by decide +kernel
theorem dX2_issue_35 : decode cX2_issue 35 = .ok (.getfield 7, 3) := by decide +kernel
theorem dX2_issue_38 : decode cX2_issue 38 = .ok (.sipush 249, 3) := by decide +kernel
theorem dX2_issue_41 : decode cX2_issue 41 = .ok (.iload_n 2, 1) := by decide +kernel
theorem dX2_issue_42 : decode cX2_issue 42 = .ok (.iadd, 1) := by decide +kernel
theorem dX2_issue_43 : decode cX2_issue 43 = .ok (.iaload, 1) := by decide +kernel
theorem dX2_issue_44 : decode cX2_issue 44 = .ok (.iastore, 1) := by decide +kernel
theorem dX2_issue_45 : decode cX2_issue 45 = .ok (.iinc 2 1, 3) := by decide +kernel
theorem dX2_issue_48 : decode cX2_issue 48 = .ok (.goto (-29), 3) := by decide +kernel
theorem dX2_issue_51 : decode cX2_issue 51 = .ok (.iload_n 1, 1) := by decide +kernel
theorem dX2_issue_52 : decode cX2_issue 52 = .ok (.ireturn, 1) := by decide +kernel
set_option maxRecDepth 20000 in
theorem ggX2_pass_X2_in : GoodIn wsX2_pass wsX2_in := goodIn_r _ [6] (by decide +kernel) (by decide +kernel)
set_option maxRecDepth 20000 in
theorem gX2_pass_X2_in : GoodIn wsX2_pass (va_wsS RX2 41 yX2_in wsX2_in) := goodIn_app (goodIn_of _ (by decide +kernel)) ggX2_pass_X2_in
set_option maxRecDepth 20000 in
theorem ggX2_pass_X2_changes : GoodIn wsX2_pass wsX2_changes := goodIn_r _ [10, 11, 12, 2, 68, 69, 70, 71, 72, 73, 74, 75, 76, 77, 78, 79, 80] (by decide +kernel) (by decide +kernel)
set_option maxRecDepth 20000 in
theorem gX2_pass_X2_changes : GoodIn wsX2_pass (wsV RX2 101 RX2 yX2_changes wsX2_changes) := goodIn_app (goodIn_of _ (by decide +kernel)) ggX2_pass_X2_changes
set_option maxRecDepth 20000 in
theorem ggX2_pass_X2_day : GoodIn wsX2_pass wsX2_day := goodIn_r _ [16, 2, 17, 18, 19, 5, 20, 21, 22, 23, 24, 25, 26, 27, 28, 29, 30, 31, 32, 33, 34, 35, 36, 37, 38, 39, 40, 41, 42, 43, 44, 45, 46, 47, 48, 49, 50, 51, 52, 53, 54, 55, 56, 57, 58, 59, 60, 61, 62, 63, 64, 65, 66, 67, 68, 69, 70, 71, 72, 73, 74, 75, 76, 77, 78, 79, 80] (by decide +kernel) (by decide +kernel)
set_option maxRecDepth 20000 in
theorem gX2_pass_X2_day : GoodIn wsX2_pass (wsV RX2 120 RX2 yX2_day wsX2_day) := goodIn_app (goodIn_of _ (by decide +kernel)) ggX2_pass_X2_day
theorem dX2_pass_0 : decode cX2_pass 0 = .ok (.iload_n 1, 1) := by decide +kernel
theorem dX2_pass_1 : decode cX2_pass 1 = .ok (.i2l, 1) := by decide +kernel
theorem dX2_pass_2 : decode cX2_pass 2 = .ok (.lconst 1, 1) := by decide +kernel
theorem dX2_pass_3 : decode cX2_pass 3 = .ok (.ldc2_w 118, 3) := by decide +kernel
theorem dX2_pass_6 : decode cX2_pass 6 = .ok (.invokestatic 41, 3) := by decide +kernel
theorem dX2_pass_9 : decode cX2_pass 9 = .ok (.ifCond .ne 6, 3) := by decide +kernel
theorem dX2_pass_12 : decode cX2_pass 12 = .ok (.bipush (-2), 2) := by decide +kernel
theorem dX2_pass_14 : decode cX2_pass 14 = .ok (.ireturn, 1) := by decide +kernel
theorem dX2_pass_15 : decode cX2_pass 15 = .ok (.aload_n 0, 1) := by decide +kernel
theorem dX2_pass_16 : decode cX2_pass 16 = .ok (.getfield 7, 3) := by decide +kernel
theorem dX2_pass_19 : decode cX2_pass 19 = .ok (.iconst 4, 1) := by decide +kernel
theorem dX2_pass_20 : decode cX2_pass 20 = .ok (.iaload, 1) := by decide +kernel
theorem dX2_pass_21 : decode cX2_pass 21 = .ok (.iload_n 1, 1) := by decide +kernel
theorem dX2_pass_22 : decode cX2_pass 22 = .ok (.iadd, 1) := by decide +kernel
theorem dX2_pass_23 : decode cX2_pass 23 = .ok (.sipush 9999, 3) := by decide +kernel
theorem dX2_pass_26 : decode cX2_pass 26 = .ok (.if_icmp .le 6, 3) := by decide +kernel
theorem dX2_pass_29 : decode cX2_pass 29 = .ok (.bipush (-4), 2) := by decide +kernel
theorem dX2_pass_31 : decode cX2_pass 31 = .ok (.ireturn, 1) := by decide +kernel
theorem dX2_pass_32 : decode cX2_pass 32 = .ok (.aload_n 0, 1) := by decide +kernel
theorem dX2_pass_33 : decode cX2_pass 33 = .ok (.invokevirtual 101, 3) := by decide +kernel
theorem dX2_pass_36 : decode cX2_pass 36 = .ok (.aload_n 0, 1) := by decide +kernel
theorem dX2_pass_37 : decode cX2_pass 37 = .ok (.getfield 7, 3) := by decide +kernel
theorem dX2_pass_40 : decode cX2_pass 40 = .ok (.bipush 8, 2) := by decide +kernel
theorem dX2_pass_42 : decode cX2_pass 42 = .ok (.iaload, 1) := by decide +kernel
theorem dX2_pass_43 : decode cX2_pass 43 = .ok (.istore_n 2, 1) := by decide +kernel
theorem dX2_pass_44 : decode cX2_pass 44 = .ok (.iconst 0, 1) := by decide +kernel
theorem dX2_pass_45 : decode cX2_pass 45 = .ok (.istore_n 3, 1) := by decide +kernel
theorem dX2_pass_46 : decode cX2_pass 46 = .ok (.iload_n 3, 1) := by decide +kernel
theorem dX2_pass_47 : decode cX2_pass 47 = .ok (.iload_n 1, 1) := by decide +kernel
theorem dX2_pass_48 : decode cX2_pass 48 = .ok (.if_icmp .ge 13, 3) := by decide +kernel
theorem dX2_pass_51 : decode cX2_pass 51 = .ok (.aload_n 0, 1) := by decide +kernel
theorem dX2_pass_52 : decode cX2_pass 52 = .ok (.invokevirtual 120, 3) := by decide +kernel
theorem dX2_pass_55 : decode cX2_pass 55 = .ok (.iinc 3 1, 3) := by decide +kernel
theorem dX2_pass_58 : decode cX2_pass 58 = .ok (.goto (-12), 3) := by decide +kernel
theorem dX2_pass_61 : decode cX2_pass 61 = .ok (.aload_n 0, 1) := by decide +kernel
theorem dX2_pass_62 : decode cX2_pass 62 = .ok (.getfield 7, 3) := by decide +kernel
theorem dX2_pass_65 : decode cX2_pass 65 = .ok (.bipush 8, 2) := by decide +kernel
theorem dX2_pass_67 : decode cX2_pass 67 = .ok (.iaload, 1) := by decide +kernel
theorem dX2_pass_68 : decode cX2_pass 68 = .ok (.iload_n 2, 1) := by decide +kernel
theorem dX2_pass_69 : decode cX2_pass 69 = .ok (.isub, 1) := by decide +kernel
theorem dX2_pass_70 : decode cX2_pass 70 = .ok (.ireturn, 1) := by decide +kernel
set_option maxRecDepth 20000 in
theorem ggX2_placeOf_X2_whereIs : GoodIn wsX2_placeOf wsX2_whereIs := goodIn_r _ [6, 7, 8, 9, 5, 10, 1, 11, 12, 13, 14, 19, 20, 21, 22, 23, 24, 25, 26, 27, 28, 29, 30, 31] (by decide +kernel) (by decide +kernel)
set_option maxRecDepth 20000 in
theorem gX2_placeOf_X2_whereIs : GoodIn wsX2_placeOf (wsV RX2 72 RX2 yX2_whereIs wsX2_whereIs) := goodIn_app (goodIn_of _ (by decide +kernel)) ggX2_placeOf_X2_whereIs
set_option maxRecDepth 20000 in
theorem ggX2_placeOf_X2_comesFirst : GoodIn wsX2_placeOf wsX2_comesFirst := goodIn_r _ [18, 7, 8, 9, 5, 10, 1, 19, 20, 21, 22, 23, 24, 25, 26, 27, 28, 29, 30, 31] (by decide +kernel) (by decide +kernel)
set_option maxRecDepth 20000 in
theorem gX2_placeOf_X2_comesFirst : GoodIn wsX2_placeOf (wsV RX2 75 RX2 yX2_comesFirst wsX2_comesFirst) := goodIn_app (goodIn_of _ (by decide +kernel)) ggX2_placeOf_X2_comesFirst
theorem dX2_placeOf_0 : decode cX2_placeOf 0 = .ok (.aload_n 0, 1) := by decide +kernel
theorem dX2_placeOf_1 : decode cX2_placeOf 1 = .ok (.iload_n 1, 1) := by decide +kernel
theorem dX2_placeOf_2 : decode cX2_placeOf 2 = .ok (.invokevirtual 72, 3) := by decide +kernel
theorem dX2_placeOf_5 : decode cX2_placeOf 5 = .ok (.ifCond .eq 6, 3) := by decide +kernel
theorem dX2_placeOf_8 : decode cX2_placeOf 8 = .ok (.bipush (-6), 2) := by decide +kernel
theorem dX2_placeOf_10 : decode cX2_placeOf 10 = .ok (.ireturn, 1) := by decide +kernel
theorem dX2_placeOf_11 : decode cX2_placeOf 11 = .ok (.iconst 0, 1) := by decide +kernel
theorem dX2_placeOf_12 : decode cX2_placeOf 12 = .ok (.istore_n 2, 1) := by decide +kernel
theorem dX2_placeOf_13 : decode cX2_placeOf 13 = .ok (.iconst 0, 1) := by decide +kernel
theorem dX2_placeOf_14 : decode cX2_placeOf 14 = .ok (.istore_n 3, 1) := by decide +kernel
theorem dX2_placeOf_15 : decode cX2_placeOf 15 = .ok (.iload_n 3, 1) := by decide +kernel
theorem dX2_placeOf_16 : decode cX2_placeOf 16 = .ok (.aload_n 0, 1) := by decide +kernel
theorem dX2_placeOf_17 : decode cX2_placeOf 17 = .ok (.getfield 7, 3) := by decide +kernel
theorem dX2_placeOf_20 : decode cX2_placeOf 20 = .ok (.iconst 5, 1) := by decide +kernel
theorem dX2_placeOf_21 : decode cX2_placeOf 21 = .ok (.iaload, 1) := by decide +kernel
theorem dX2_placeOf_22 : decode cX2_placeOf 22 = .ok (.if_icmp .ge 34, 3) := by decide +kernel
theorem dX2_placeOf_25 : decode cX2_placeOf 25 = .ok (.iload_n 2, 1) := by decide +kernel
theorem dX2_placeOf_26 : decode cX2_placeOf 26 = .ok (.aload_n 0, 1) := by decide +kernel
theorem dX2_placeOf_27 : decode cX2_placeOf 27 = .ok (.iload_n 3, 1) := by decide +kernel
theorem dX2_placeOf_28 : decode cX2_placeOf 28 = .ok (.invokevirtual 72, 3) := by decide +kernel
theorem dX2_placeOf_31 : decode cX2_placeOf 31 = .ok (.ifCond .ne 16, 3) := by decide +kernel
theorem dX2_placeOf_34 : decode cX2_placeOf 34 = .ok (.aload_n 0, 1) := by decide +kernel
theorem dX2_placeOf_35 : decode cX2_placeOf 35 = .ok (.iload_n 3, 1) := by decide +kernel
theorem dX2_placeOf_36 : decode cX2_placeOf 36 = .ok (.iload_n 1, 1) := by decide +kernel
theorem dX2_placeOf_37 : decode cX2_placeOf 37 = .ok (.invokevirtual 75, 3) := by decide +kernel
theorem dX2_placeOf_40 : decode cX2_placeOf 40 = .ok (.ifCond .eq 7, 3) := by decide +kernel
theorem dX2_placeOf_43 : decode cX2_placeOf 43 = .ok (.iconst 1, 1) := by decide +kernel
theorem dX2_placeOf_44 : decode cX2_placeOf 44 = .ok (.goto 4, 3) := by decide +kernel
theorem dX2_placeOf_47 : decode cX2_placeOf 47 = .ok (.iconst 0, 1) := by decide +kernel
theorem dX2_placeOf_48 : decode cX2_placeOf 48 = .ok (.iadd, 1) := by decide +kernel
theorem dX2_placeOf_49 : decode cX2_placeOf 49 = .ok (.istore_n 2, 1) := by decide +kernel
theorem dX2_placeOf_50 : decode cX2_placeOf 50 = .ok (.iinc 3 1, 3) := by decide +kernel
theorem dX2_placeOf_53 : decode cX2_placeOf 53 = .ok (.goto (-38), 3) := by decide +kernel
theorem dX2_placeOf_56 : decode cX2_placeOf 56 = .ok (.iload_n 2, 1) := by decide +kernel
theorem dX2_placeOf_57 : decode cX2_placeOf 57 = .ok (.ireturn, 1) := by decide +kernel
set_option maxRecDepth 20000 in
theorem ggX2_name_X2_isName : GoodIn wsX2_name wsX2_isName := goodIn_r _ [5, 6, 7, 8, 4, 9, 30, 31, 32, 33, 34, 35, 36, 37, 38, 39, 40, 41, 42] (by decide +kernel) (by decide +kernel)
set_option maxRecDepth 20000 in
theorem gX2_name_X2_isName : GoodIn wsX2_name (wsV RX2 104 RX2 yX2_isName wsX2_isName) := goodIn_app (goodIn_of _ (by decide +kernel)) ggX2_name_X2_isName
set_option maxRecDepth 20000 in
theorem ggX2_name_X2_get : GoodIn wsX2_name wsX2_get := goodIn_r _ [13, 6, 30, 31, 32, 33, 34, 35, 36, 37, 38, 39, 40, 41, 42] (by decide +kernel) (by decide +kernel)
set_option maxRecDepth 20000 in
theorem gX2_name_X2_get : GoodIn wsX2_name (wsV RX2 47 RX2 yX2_get wsX2_get) := goodIn_app (goodIn_of _ (by decide +kernel)) ggX2_name_X2_get
set_option maxRecDepth 20000 in
theorem ggX2_name_X2_whereIs : GoodIn wsX2_name wsX2_whereIs := goodIn_r _ [17, 10, 11, 12, 4, 13, 6, 18, 19, 20, 21, 30, 31, 32, 33, 34, 35, 36, 37, 38, 39, 40, 41, 42] (by decide +kernel) (by decide +kernel)
set_option maxRecDepth 20000 in
theorem gX2_name_X2_whereIs : GoodIn wsX2_name (wsV RX2 72 RX2 yX2_whereIs wsX2_whereIs) := goodIn_app (goodIn_of _ (by decide +kernel)) ggX2_name_X2_whereIs
set_option maxRecDepth 20000 in
theorem ggX2_name_X2_bearers : GoodIn wsX2_name wsX2_bearers := goodIn_r _ [21, 6, 30, 31, 32, 33, 34, 35, 36, 37, 38, 39, 40, 41, 42] (by decide +kernel) (by decide +kernel)
set_option maxRecDepth 20000 in
theorem gX2_name_X2_bearers : GoodIn wsX2_name (wsV RX2 51 RX2 yX2_bearers wsX2_bearers) := goodIn_app (goodIn_of _ (by decide +kernel)) ggX2_name_X2_bearers
set_option maxRecDepth 20000 in
theorem ggX2_name_X2_placeOf : GoodIn wsX2_name wsX2_placeOf := goodIn_r _ [25, 6, 14, 15, 16, 4, 17, 10, 11, 12, 13, 18, 19, 20, 21, 26, 27, 28, 29, 30, 31, 32, 33, 34, 35, 36, 37, 38, 39, 40, 41, 42] (by decide +kernel) (by decide +kernel)
set_option maxRecDepth 20000 in
theorem gX2_name_X2_placeOf : GoodIn wsX2_name (wsV RX2 123 RX2 yX2_placeOf wsX2_placeOf) := goodIn_app (goodIn_of _ (by decide +kernel)) ggX2_name_X2_placeOf
theorem dX2_name_0 : decode cX2_name 0 = .ok (.aload_n 0, 1) := by decide +kernel
theorem dX2_name_1 : decode cX2_name 1 = .ok (.iload_n 1, 1) := by decide +kernel
theorem dX2_name_2 : decode cX2_name 2 = .ok (.invokevirtual 104, 3) := by decide +kernel
theorem dX2_name_5 : decode cX2_name 5 = .ok (.ifCond .ne 5, 3) := by decide +kernel
theorem dX2_name_8 : decode cX2_name 8 = .ok (.iconst (-1), 1) := by decide +kernel
theorem dX2_name_9 : decode cX2_name 9 = .ok (.ireturn, 1) := by decide +kernel
theorem dX2_name_10 : decode cX2_name 10 = .ok (.iload_n 2, 1) := by decide +kernel
theorem dX2_name_11 : decode cX2_name 11 = .ok (.tableswitch 87 0 6 #[41, 48, 54, 60, 66, 73, 80], 41) := by decide +kernel
theorem dX2_name_52 : decode cX2_name 52 = .ok (.aload_n 0, 1) := by decide +kernel
theorem dX2_name_53 : decode cX2_name 53 = .ok (.iload_n 1, 1) := by decide +kernel
theorem dX2_name_54 : decode cX2_name 54 = .ok (.iconst 0, 1) := by decide +kernel
theorem dX2_name_55 : decode cX2_name 55 = .ok (.invokevirtual 47, 3) := by decide +kernel
theorem dX2_name_58 : decode cX2_name 58 = .ok (.ireturn, 1) := by decide +kernel
theorem dX2_name_59 : decode cX2_name 59 = .ok (.aload_n 0, 1) := by decide +kernel
theorem dX2_name_60 : decode cX2_name 60 = .ok (.iload_n 1, 1) := by decide +kernel
theorem dX2_name_61 : decode cX2_name 61 = .ok (.invokevirtual 72, 3) := by decide +kernel
theorem dX2_name_64 : decode cX2_name 64 = .ok (.ireturn, 1) := by decide +kernel
theorem dX2_name_65 : decode cX2_name 65 = .ok (.aload_n 0, 1) := by decide +kernel
theorem dX2_name_66 : decode cX2_name 66 = .ok (.iload_n 1, 1) := by decide +kernel
theorem dX2_name_67 : decode cX2_name 67 = .ok (.invokevirtual 51, 3) := by decide +kernel
theorem dX2_name_70 : decode cX2_name 70 = .ok (.ireturn, 1) := by decide +kernel
theorem dX2_name_71 : decode cX2_name 71 = .ok (.aload_n 0, 1) := by decide +kernel
theorem dX2_name_72 : decode cX2_name 72 = .ok (.iload_n 1, 1) := by decide +kernel
theorem dX2_name_73 : decode cX2_name 73 = .ok (.invokevirtual 123, 3) := by decide +kernel
theorem dX2_name_76 : decode cX2_name 76 = .ok (.ireturn, 1) := by decide +kernel
theorem dX2_name_77 : decode cX2_name 77 = .ok (.aload_n 0, 1) := by decide +kernel
theorem dX2_name_78 : decode cX2_name 78 = .ok (.iload_n 1, 1) := by decide +kernel
theorem dX2_name_79 : decode cX2_name 79 = .ok (.iconst 4, 1) := by decide +kernel
theorem dX2_name_80 : decode cX2_name 80 = .ok (.invokevirtual 47, 3) := by decide +kernel
theorem dX2_name_83 : decode cX2_name 83 = .ok (.ireturn, 1) := by decide +kernel
theorem dX2_name_84 : decode cX2_name 84 = .ok (.aload_n 0, 1) := by decide +kernel
theorem dX2_name_85 : decode cX2_name 85 = .ok (.iload_n 1, 1) := by decide +kernel
theorem dX2_name_86 : decode cX2_name 86 = .ok (.iconst 3, 1) := by decide +kernel
theorem dX2_name_87 : decode cX2_name 87 = .ok (.invokevirtual 47, 3) := by decide +kernel
theorem dX2_name_90 : decode cX2_name 90 = .ok (.ireturn, 1) := by decide +kernel
theorem dX2_name_91 : decode cX2_name 91 = .ok (.aload_n 0, 1) := by decide +kernel
theorem dX2_name_92 : decode cX2_name 92 = .ok (.iload_n 1, 1) := by decide +kernel
theorem dX2_name_93 : decode cX2_name 93 = .ok (.iconst 2, 1) := by decide +kernel
theorem dX2_name_94 : decode cX2_name 94 = .ok (.invokevirtual 47, 3) := by decide +kernel
theorem dX2_name_97 : decode cX2_name 97 = .ok (.ireturn, 1) := by decide +kernel
theorem dX2_name_98 : decode cX2_name 98 = .ok (.bipush (-2), 2) := by decide +kernel
theorem dX2_name_100 : decode cX2_name 100 = .ok (.ireturn, 1) := by decide +kernel
set_option maxRecDepth 20000 in
theorem ggX2_alike_X2_isName : GoodIn wsX2_alike wsX2_isName := goodIn_r _ [5, 6, 7, 8, 4, 9, 18, 19, 20, 21, 22, 23, 24, 25, 26, 27, 28, 29, 30] (by decide +kernel) (by decide +kernel)
set_option maxRecDepth 20000 in
theorem gX2_alike_X2_isName : GoodIn wsX2_alike (wsV RX2 104 RX2 yX2_isName wsX2_isName) := goodIn_app (goodIn_of _ (by decide +kernel)) ggX2_alike_X2_isName
set_option maxRecDepth 20000 in
theorem ggX2_alike_X2_in : GoodIn wsX2_alike wsX2_in := goodIn_r _ [9] (by decide +kernel) (by decide +kernel)
set_option maxRecDepth 20000 in
theorem gX2_alike_X2_in : GoodIn wsX2_alike (va_wsS RX2 41 yX2_in wsX2_in) := goodIn_app (goodIn_of _ (by decide +kernel)) ggX2_alike_X2_in
set_option maxRecDepth 20000 in
theorem ggX2_alike_X2_soundAlike : GoodIn wsX2_alike wsX2_soundAlike := goodIn_r _ [13, 14, 15, 16, 4, 17, 6, 18, 19, 20, 21, 22, 23, 24, 25, 26, 27, 28, 29, 30] (by decide +kernel) (by decide +kernel)
set_option maxRecDepth 20000 in
theorem gX2_alike_X2_soundAlike : GoodIn wsX2_alike (wsV RX2 55 RX2 yX2_soundAlike wsX2_soundAlike) := goodIn_app (goodIn_of _ (by decide +kernel)) ggX2_alike_X2_soundAlike
theorem dX2_alike_0 : decode cX2_alike 0 = .ok (.aload_n 0, 1) := by decide +kernel
theorem dX2_alike_1 : decode cX2_alike 1 = .ok (.iload_n 1, 1) := by decide +kernel
theorem dX2_alike_2 : decode cX2_alike 2 = .ok (.invokevirtual 104, 3) := by decide +kernel
theorem dX2_alike_5 : decode cX2_alike 5 = .ok (.ifCond .eq 11, 3) := by decide +kernel
theorem dX2_alike_8 : decode cX2_alike 8 = .ok (.aload_n 0, 1) := by decide +kernel
theorem dX2_alike_9 : decode cX2_alike 9 = .ok (.iload_n 2, 1) := by decide +kernel
theorem dX2_alike_10 : decode cX2_alike 10 = .ok (.invokevirtual 104, 3) := by decide +kernel
theorem dX2_alike_13 : decode cX2_alike 13 = .ok (.ifCond .ne 5, 3) := by decide +kernel
theorem dX2_alike_16 : decode cX2_alike 16 = .ok (.iconst (-1), 1) := by decide +kernel
theorem dX2_alike_17 : decode cX2_alike 17 = .ok (.ireturn, 1) := by decide +kernel
theorem dX2_alike_18 : decode cX2_alike 18 = .ok (.iload_n 3, 1) := by decide +kernel
theorem dX2_alike_19 : decode cX2_alike 19 = .ok (.i2l, 1) := by decide +kernel
theorem dX2_alike_20 : decode cX2_alike 20 = .ok (.lconst 0, 1) := by decide +kernel
theorem dX2_alike_21 : decode cX2_alike 21 = .ok (.lconst 1, 1) := by decide +kernel
theorem dX2_alike_22 : decode cX2_alike 22 = .ok (.invokestatic 41, 3) := by decide +kernel
theorem dX2_alike_25 : decode cX2_alike 25 = .ok (.ifCond .ne 8, 3) := by decide +kernel
theorem dX2_alike_28 : decode cX2_alike 28 = .ok (.bipush (-2), 2) := by decide +kernel
theorem dX2_alike_30 : decode cX2_alike 30 = .ok (.goto 17, 3) := by decide +kernel
theorem dX2_alike_33 : decode cX2_alike 33 = .ok (.aload_n 0, 1) := by decide +kernel
theorem dX2_alike_34 : decode cX2_alike 34 = .ok (.iload_n 1, 1) := by decide +kernel
theorem dX2_alike_35 : decode cX2_alike 35 = .ok (.iload_n 2, 1) := by decide +kernel
theorem dX2_alike_36 : decode cX2_alike 36 = .ok (.invokevirtual 55, 3) := by decide +kernel
theorem dX2_alike_39 : decode cX2_alike 39 = .ok (.ifCond .eq 7, 3) := by decide +kernel
theorem dX2_alike_42 : decode cX2_alike 42 = .ok (.iconst 1, 1) := by decide +kernel
theorem dX2_alike_43 : decode cX2_alike 43 = .ok (.goto 4, 3) := by decide +kernel
theorem dX2_alike_46 : decode cX2_alike 46 = .ok (.iconst 0, 1) := by decide +kernel
theorem dX2_alike_47 : decode cX2_alike 47 = .ok (.ireturn, 1) := by decide +kernel
set_option maxRecDepth 20000 in
theorem ggX2_corner_X2_isCorner : GoodIn wsX2_corner wsX2_isCorner := goodIn_r _ [6, 7, 8, 9, 5, 10] (by decide +kernel) (by decide +kernel)
set_option maxRecDepth 20000 in
theorem gX2_corner_X2_isCorner : GoodIn wsX2_corner (va_wsS RX2 112 yX2_isCorner wsX2_isCorner) := goodIn_app (goodIn_of _ (by decide +kernel)) ggX2_corner_X2_isCorner
set_option maxRecDepth 20000 in
theorem ggX2_corner_X2_in : GoodIn wsX2_corner wsX2_in := goodIn_r _ [10] (by decide +kernel) (by decide +kernel)
set_option maxRecDepth 20000 in
theorem gX2_corner_X2_in : GoodIn wsX2_corner (va_wsS RX2 41 yX2_in wsX2_in) := goodIn_app (goodIn_of _ (by decide +kernel)) ggX2_corner_X2_in
theorem dX2_corner_0 : decode cX2_corner 0 = .ok (.iload_n 1, 1) := by decide +kernel
theorem dX2_corner_1 : decode cX2_corner 1 = .ok (.invokestatic 112, 3) := by decide +kernel
theorem dX2_corner_4 : decode cX2_corner 4 = .ok (.ifCond .ne 5, 3) := by decide +kernel
theorem dX2_corner_7 : decode cX2_corner 7 = .ok (.iconst (-1), 1) := by decide +kernel
theorem dX2_corner_8 : decode cX2_corner 8 = .ok (.ireturn, 1) := by decide +kernel
theorem dX2_corner_9 : decode cX2_corner 9 = .ok (.iload_n 2, 1) := by decide +kernel
theorem dX2_corner_10 : decode cX2_corner 10 = .ok (.i2l, 1) := by decide +kernel
theorem dX2_corner_11 : decode cX2_corner 11 = .ok (.lconst 0, 1) := by decide +kernel
theorem dX2_corner_12 : decode cX2_corner 12 = .ok (.ldc2_w 126, 3) := by decide +kernel
theorem dX2_corner_15 : decode cX2_corner 15 = .ok (.invokestatic 41, 3) := by decide +kernel
theorem dX2_corner_18 : decode cX2_corner 18 = .ok (.ifCond .eq 21, 3) := by decide +kernel
theorem dX2_corner_21 : decode cX2_corner 21 = .ok (.aload_n 0, 1) := by decide +kernel
theorem dX2_corner_22 : decode cX2_corner 22 = .ok (.getfield 7, 3) := by decide +kernel
theorem dX2_corner_25 : decode cX2_corner 25 = .ok (.sipush 249, 3) := by decide +kernel
theorem dX2_corner_28 : decode cX2_corner 28 = .ok (.bipush 12, 2) := by decide +kernel
theorem dX2_corner_30 : decode cX2_corner 30 = .ok (.iload_n 2, 1) := by decide +kernel
theorem dX2_corner_31 : decode cX2_corner 31 = .ok (.imul, 1) := by decide +kernel
theorem dX2_corner_32 : decode cX2_corner 32 = .ok (.iadd, 1) := by decide +kernel
theorem dX2_corner_33 : decode cX2_corner 33 = .ok (.iload_n 1, 1) := by decide +kernel
theorem dX2_corner_34 : decode cX2_corner 34 = .ok (.iadd, 1) := by decide +kernel
theorem dX2_corner_35 : decode cX2_corner 35 = .ok (.iaload, 1) := by decide +kernel
theorem dX2_corner_36 : decode cX2_corner 36 = .ok (.goto 5, 3) := by decide +kernel
theorem dX2_corner_39 : decode cX2_corner 39 = .ok (.bipush (-2), 2) := by decide +kernel
theorem dX2_corner_41 : decode cX2_corner 41 = .ok (.ireturn, 1) := by decide +kernel
set_option maxRecDepth 20000 in
theorem ggX2_why_X2_isName : GoodIn wsX2_why wsX2_isName := goodIn_r _ [5, 6, 7, 8, 4, 9, 37, 38, 39, 40, 41, 42, 43, 44, 45, 46, 47, 48, 49] (by decide +kernel) (by decide +kernel)
set_option maxRecDepth 20000 in
theorem gX2_why_X2_isName : GoodIn wsX2_why (wsV RX2 104 RX2 yX2_isName wsX2_isName) := goodIn_app (goodIn_of _ (by decide +kernel)) ggX2_why_X2_isName
set_option maxRecDepth 20000 in
theorem ggX2_why_X2_isCorner : GoodIn wsX2_why wsX2_isCorner := goodIn_r _ [12, 13, 7, 8, 4, 9] (by decide +kernel) (by decide +kernel)
set_option maxRecDepth 20000 in
theorem gX2_why_X2_isCorner : GoodIn wsX2_why (va_wsS RX2 112 yX2_isCorner wsX2_isCorner) := goodIn_app (goodIn_of _ (by decide +kernel)) ggX2_why_X2_isCorner
set_option maxRecDepth 20000 in
theorem ggX2_why_X2_reason : GoodIn wsX2_why wsX2_reason := goodIn_r _ [17, 6, 18, 19, 20, 4, 21, 22, 23, 24, 25, 26, 27, 28, 29, 30, 31, 32, 33, 34, 35, 36, 37, 38, 39, 40, 41, 42, 43, 44, 45, 46, 47, 48, 49] (by decide +kernel) (by decide +kernel)
set_option maxRecDepth 20000 in
theorem gX2_why_X2_reason : GoodIn wsX2_why (wsV RX2 69 RX2 yX2_reason wsX2_reason) := goodIn_app (goodIn_of _ (by decide +kernel)) ggX2_why_X2_reason
theorem dX2_why_0 : decode cX2_why 0 = .ok (.aload_n 0, 1) := by decide +kernel
theorem dX2_why_1 : decode cX2_why 1 = .ok (.iload_n 1, 1) := by decide +kernel
theorem dX2_why_2 : decode cX2_why 2 = .ok (.invokevirtual 104, 3) := by decide +kernel
theorem dX2_why_5 : decode cX2_why 5 = .ok (.ifCond .eq 19, 3) := by decide +kernel
theorem dX2_why_8 : decode cX2_why 8 = .ok (.iload_n 2, 1) := by decide +kernel
theorem dX2_why_9 : decode cX2_why 9 = .ok (.invokestatic 112, 3) := by decide +kernel
theorem dX2_why_12 : decode cX2_why 12 = .ok (.ifCond .eq 12, 3) := by decide +kernel
theorem dX2_why_15 : decode cX2_why 15 = .ok (.aload_n 0, 1) := by decide +kernel
theorem dX2_why_16 : decode cX2_why 16 = .ok (.iload_n 1, 1) := by decide +kernel
theorem dX2_why_17 : decode cX2_why 17 = .ok (.iload_n 2, 1) := by decide +kernel
theorem dX2_why_18 : decode cX2_why 18 = .ok (.invokevirtual 69, 3) := by decide +kernel
theorem dX2_why_21 : decode cX2_why 21 = .ok (.goto 4, 3) := by decide +kernel
theorem dX2_why_24 : decode cX2_why 24 = .ok (.iconst (-1), 1) := by decide +kernel
theorem dX2_why_25 : decode cX2_why 25 = .ok (.ireturn, 1) := by decide +kernel
set_option maxRecDepth 20000 in
theorem ggX2_waiting_X2_whereIs : GoodIn wsX2_waiting wsX2_whereIs := goodIn_r _ [6, 7, 8, 9, 5, 10, 1, 11, 12, 13, 14, 15, 16, 17, 18, 19, 20, 21, 22, 23, 24, 25, 26, 27] (by decide +kernel) (by decide +kernel)
set_option maxRecDepth 20000 in
theorem gX2_waiting_X2_whereIs : GoodIn wsX2_waiting (wsV RX2 72 RX2 yX2_whereIs wsX2_whereIs) := goodIn_app (goodIn_of _ (by decide +kernel)) ggX2_waiting_X2_whereIs
theorem dX2_waiting_0 : decode cX2_waiting 0 = .ok (.iconst 0, 1) := by decide +kernel
theorem dX2_waiting_1 : decode cX2_waiting 1 = .ok (.istore_n 1, 1) := by decide +kernel
theorem dX2_waiting_2 : decode cX2_waiting 2 = .ok (.iconst 0, 1) := by decide +kernel
theorem dX2_waiting_3 : decode cX2_waiting 3 = .ok (.istore_n 2, 1) := by decide +kernel
theorem dX2_waiting_4 : decode cX2_waiting 4 = .ok (.iload_n 2, 1) := by decide +kernel
theorem dX2_waiting_5 : decode cX2_waiting 5 = .ok (.aload_n 0, 1) := by decide +kernel
theorem dX2_waiting_6 : decode cX2_waiting 6 = .ok (.getfield 7, 3) := by decide +kernel
theorem dX2_waiting_9 : decode cX2_waiting 9 = .ok (.iconst 5, 1) := by decide +kernel
theorem dX2_waiting_10 : decode cX2_waiting 10 = .ok (.iaload, 1) := by decide +kernel
theorem dX2_waiting_11 : decode cX2_waiting 11 = .ok (.if_icmp .ge 25, 3) := by decide +kernel
theorem dX2_waiting_14 : decode cX2_waiting 14 = .ok (.iload_n 1, 1) := by decide +kernel
theorem dX2_waiting_15 : decode cX2_waiting 15 = .ok (.aload_n 0, 1) := by decide +kernel
theorem dX2_waiting_16 : decode cX2_waiting 16 = .ok (.iload_n 2, 1) := by decide +kernel
theorem dX2_waiting_17 : decode cX2_waiting 17 = .ok (.invokevirtual 72, 3) := by decide +kernel
theorem dX2_waiting_20 : decode cX2_waiting 20 = .ok (.ifCond .ne 7, 3) := by decide +kernel
theorem dX2_waiting_23 : decode cX2_waiting 23 = .ok (.iconst 1, 1) := by decide +kernel
theorem dX2_waiting_24 : decode cX2_waiting 24 = .ok (.goto 4, 3) := by decide +kernel
theorem dX2_waiting_27 : decode cX2_waiting 27 = .ok (.iconst 0, 1) := by decide +kernel
theorem dX2_waiting_28 : decode cX2_waiting 28 = .ok (.iadd, 1) := by decide +kernel
theorem dX2_waiting_29 : decode cX2_waiting 29 = .ok (.istore_n 1, 1) := by decide +kernel
theorem dX2_waiting_30 : decode cX2_waiting 30 = .ok (.iinc 2 1, 3) := by decide +kernel
theorem dX2_waiting_33 : decode cX2_waiting 33 = .ok (.goto (-29), 3) := by decide +kernel
theorem dX2_waiting_36 : decode cX2_waiting 36 = .ok (.iload_n 1, 1) := by decide +kernel
theorem dX2_waiting_37 : decode cX2_waiting 37 = .ok (.ireturn, 1) := by decide +kernel
theorem dX2_named_0 : decode cX2_named 0 = .ok (.iconst 0, 1) := by decide +kernel
theorem dX2_named_1 : decode cX2_named 1 = .ok (.istore_n 1, 1) := by decide +kernel
theorem dX2_named_2 : decode cX2_named 2 = .ok (.iconst 0, 1) := by decide +kernel
theorem dX2_named_3 : decode cX2_named 3 = .ok (.istore_n 2, 1) := by decide +kernel
theorem dX2_named_4 : decode cX2_named 4 = .ok (.iload_n 2, 1) := by decide +kernel
theorem dX2_named_5 : decode cX2_named 5 = .ok (.bipush 12, 2) := by decide +kernel
theorem dX2_named_7 : decode cX2_named 7 = .ok (.if_icmp .ge 32, 3) := by decide +kernel
theorem dX2_named_10 : decode cX2_named 10 = .ok (.iload_n 1, 1) := by decide +kernel
theorem dX2_named_11 : decode cX2_named 11 = .ok (.aload_n 0, 1) := by decide +kernel
theorem dX2_named_12 : decode cX2_named 12 = .ok (.getfield 7, 3) := by decide +kernel
theorem dX2_named_15 : decode cX2_named 15 = .ok (.sipush 249, 3) := by decide +kernel
theorem dX2_named_18 : decode cX2_named 18 = .ok (.iload_n 2, 1) := by decide +kernel
theorem dX2_named_19 : decode cX2_named 19 = .ok (.iadd, 1) := by decide +kernel
theorem dX2_named_20 : decode cX2_named 20 = .ok (.iaload, 1) := by decide +kernel
theorem dX2_named_21 : decode cX2_named 21 = .ok (.bipush (-6), 2) := by decide +kernel
theorem dX2_named_23 : decode cX2_named 23 = .ok (.if_icmp .ne 7, 3) := by decide +kernel
theorem dX2_named_26 : decode cX2_named 26 = .ok (.iconst 0, 1) := by decide +kernel
theorem dX2_named_27 : decode cX2_named 27 = .ok (.goto 4, 3) := by decide +kernel
theorem dX2_named_30 : decode cX2_named 30 = .ok (.iconst 1, 1) := by decide +kernel
theorem dX2_named_31 : decode cX2_named 31 = .ok (.iadd, 1) := by decide +kernel
theorem dX2_named_32 : decode cX2_named 32 = .ok (.istore_n 1, 1) := by decide +kernel
theorem dX2_named_33 : decode cX2_named 33 = .ok (.iinc 2 1, 3) := by decide +kernel
theorem dX2_named_36 : decode cX2_named 36 = .ok (.goto (-32), 3) := by decide +kernel
theorem dX2_named_39 : decode cX2_named 39 = .ok (.iload_n 1, 1) := by decide +kernel
theorem dX2_named_40 : decode cX2_named 40 = .ok (.ireturn, 1) := by decide +kernel
set_option maxRecDepth 20000 in
theorem ggX2_punPairs_X2_soundAlike : GoodIn wsX2_punPairs wsX2_soundAlike := goodIn_r _ [6, 7, 8, 9, 5, 10, 1, 11, 12, 13, 14, 15, 16, 17, 18, 19, 20, 21, 22, 23] (by decide +kernel) (by decide +kernel)
set_option maxRecDepth 20000 in
theorem gX2_punPairs_X2_soundAlike : GoodIn wsX2_punPairs (wsV RX2 55 RX2 yX2_soundAlike wsX2_soundAlike) := goodIn_app (goodIn_of _ (by decide +kernel)) ggX2_punPairs_X2_soundAlike
theorem dX2_punPairs_0 : decode cX2_punPairs 0 = .ok (.iconst 0, 1) := by decide +kernel
theorem dX2_punPairs_1 : decode cX2_punPairs 1 = .ok (.istore_n 1, 1) := by decide +kernel
theorem dX2_punPairs_2 : decode cX2_punPairs 2 = .ok (.iconst 0, 1) := by decide +kernel
theorem dX2_punPairs_3 : decode cX2_punPairs 3 = .ok (.istore_n 2, 1) := by decide +kernel
theorem dX2_punPairs_4 : decode cX2_punPairs 4 = .ok (.iload_n 2, 1) := by decide +kernel
theorem dX2_punPairs_5 : decode cX2_punPairs 5 = .ok (.bipush 12, 2) := by decide +kernel
theorem dX2_punPairs_7 : decode cX2_punPairs 7 = .ok (.if_icmp .ge 89, 3) := by decide +kernel
theorem dX2_punPairs_10 : decode cX2_punPairs 10 = .ok (.iload_n 2, 1) := by decide +kernel
theorem dX2_punPairs_11 : decode cX2_punPairs 11 = .ok (.iconst 1, 1) := by decide +kernel
theorem dX2_punPairs_12 : decode cX2_punPairs 12 = .ok (.iadd, 1) := by decide +kernel
theorem dX2_punPairs_13 : decode cX2_punPairs 13 = .ok (.istore_n 3, 1) := by decide +kernel
theorem dX2_punPairs_14 : decode cX2_punPairs 14 = .ok (.iload_n 3, 1) := by decide +kernel
theorem dX2_punPairs_15 : decode cX2_punPairs 15 = .ok (.bipush 12, 2) := by decide +kernel
theorem dX2_punPairs_17 : decode cX2_punPairs 17 = .ok (.if_icmp .ge 73, 3) := by decide +kernel
theorem dX2_punPairs_20 : decode cX2_punPairs 20 = .ok (.aload_n 0, 1) := by decide +kernel
theorem dX2_punPairs_21 : decode cX2_punPairs 21 = .ok (.getfield 7, 3) := by decide +kernel
theorem dX2_punPairs_24 : decode cX2_punPairs 24 = .ok (.sipush 249, 3) := by decide +kernel
theorem dX2_punPairs_27 : decode cX2_punPairs 27 = .ok (.iload_n 2, 1) := by decide +kernel
theorem dX2_punPairs_28 : decode cX2_punPairs 28 = .ok (.iadd, 1) := by decide +kernel
theorem dX2_punPairs_29 : decode cX2_punPairs 29 = .ok (.iaload, 1) := by decide +kernel
theorem dX2_punPairs_30 : decode cX2_punPairs 30 = .ok (.istore 4, 2) := by decide +kernel
theorem dX2_punPairs_32 : decode cX2_punPairs 32 = .ok (.aload_n 0, 1) := by decide +kernel
theorem dX2_punPairs_33 : decode cX2_punPairs 33 = .ok (.getfield 7, 3) := by decide +kernel
theorem dX2_punPairs_36 : decode cX2_punPairs 36 = .ok (.sipush 249, 3) := by decide +kernel
theorem dX2_punPairs_39 : decode cX2_punPairs 39 = .ok (.iload_n 3, 1) := by decide +kernel
theorem dX2_punPairs_40 : decode cX2_punPairs 40 = .ok (.iadd, 1) := by decide +kernel
theorem dX2_punPairs_41 : decode cX2_punPairs 41 = .ok (.iaload, 1) := by decide +kernel
theorem dX2_punPairs_42 : decode cX2_punPairs 42 = .ok (.istore 5, 2) := by decide +kernel
theorem dX2_punPairs_44 : decode cX2_punPairs 44 = .ok (.iload_n 1, 1) := by decide +kernel
theorem dX2_punPairs_45 : decode cX2_punPairs 45 = .ok (.iload 4, 2) := by decide +kernel
theorem dX2_punPairs_47 : decode cX2_punPairs 47 = .ok (.bipush (-6), 2) := by decide +kernel
theorem dX2_punPairs_49 : decode cX2_punPairs 49 = .ok (.if_icmp .eq 32, 3) := by decide +kernel
theorem dX2_punPairs_52 : decode cX2_punPairs 52 = .ok (.iload 5, 2) := by decide +kernel
theorem dX2_punPairs_54 : decode cX2_punPairs 54 = .ok (.bipush (-6), 2) := by decide +kernel
theorem dX2_punPairs_56 : decode cX2_punPairs 56 = .ok (.if_icmp .eq 25, 3) := by decide +kernel
theorem dX2_punPairs_59 : decode cX2_punPairs 59 = .ok (.iload 4, 2) := by decide +kernel
theorem dX2_punPairs_61 : decode cX2_punPairs 61 = .ok (.iload 5, 2) := by decide +kernel
theorem dX2_punPairs_63 : decode cX2_punPairs 63 = .ok (.if_icmp .eq 18, 3) := by decide +kernel
theorem dX2_punPairs_66 : decode cX2_punPairs 66 = .ok (.aload_n 0, 1) := by decide +kernel
theorem dX2_punPairs_67 : decode cX2_punPairs 67 = .ok (.iload 4, 2) := by decide +kernel
theorem dX2_punPairs_69 : decode cX2_punPairs 69 = .ok (.iload 5, 2) := by decide +kernel
theorem dX2_punPairs_71 : decode cX2_punPairs 71 = .ok (.invokevirtual 55, 3) := by decide +kernel
theorem dX2_punPairs_74 : decode cX2_punPairs 74 = .ok (.ifCond .eq 7, 3) := by decide +kernel
theorem dX2_punPairs_77 : decode cX2_punPairs 77 = .ok (.iconst 1, 1) := by decide +kernel
theorem dX2_punPairs_78 : decode cX2_punPairs 78 = .ok (.goto 4, 3) := by decide +kernel
theorem dX2_punPairs_81 : decode cX2_punPairs 81 = .ok (.iconst 0, 1) := by decide +kernel
theorem dX2_punPairs_82 : decode cX2_punPairs 82 = .ok (.iadd, 1) := by decide +kernel
theorem dX2_punPairs_83 : decode cX2_punPairs 83 = .ok (.istore_n 1, 1) := by decide +kernel
theorem dX2_punPairs_84 : decode cX2_punPairs 84 = .ok (.iinc 3 1, 3) := by decide +kernel
theorem dX2_punPairs_87 : decode cX2_punPairs 87 = .ok (.goto (-73), 3) := by decide +kernel
theorem dX2_punPairs_90 : decode cX2_punPairs 90 = .ok (.iinc 2 1, 3) := by decide +kernel
theorem dX2_punPairs_93 : decode cX2_punPairs 93 = .ok (.goto (-89), 3) := by decide +kernel
theorem dX2_punPairs_96 : decode cX2_punPairs 96 = .ok (.iload_n 1, 1) := by decide +kernel
theorem dX2_punPairs_97 : decode cX2_punPairs 97 = .ok (.ireturn, 1) := by decide +kernel
set_option maxRecDepth 20000 in
theorem ggX2_count_X2_waiting : GoodIn wsX2_count wsX2_waiting := goodIn_r _ [9, 1, 10, 11, 12, 8, 13, 14, 15, 16, 17, 18, 19, 20, 21, 45, 46, 47, 48, 49, 50, 51, 52, 53, 54, 55, 56, 57] (by decide +kernel) (by decide +kernel)
set_option maxRecDepth 20000 in
theorem gX2_count_X2_waiting : GoodIn wsX2_count (wsV RX2 128 RX2 yX2_waiting wsX2_waiting) := goodIn_app (goodIn_of _ (by decide +kernel)) ggX2_count_X2_waiting
set_option maxRecDepth 20000 in
theorem ggX2_count_X2_named : GoodIn wsX2_count wsX2_named := goodIn_r _ [25, 1, 45, 46, 47, 48, 49, 50, 51, 52, 53, 54, 55, 56, 57] (by decide +kernel) (by decide +kernel)
set_option maxRecDepth 20000 in
theorem gX2_count_X2_named : GoodIn wsX2_count (wsV RX2 131 RX2 yX2_named wsX2_named) := goodIn_app (goodIn_of _ (by decide +kernel)) ggX2_count_X2_named
set_option maxRecDepth 20000 in
theorem ggX2_count_X2_sum : GoodIn wsX2_count wsX2_sum := goodIn_r _ [29, 1, 45, 46, 47, 48, 49, 50, 51, 52, 53, 54, 55, 56, 57] (by decide +kernel) (by decide +kernel)
set_option maxRecDepth 20000 in
theorem gX2_count_X2_sum : GoodIn wsX2_count (wsV RX2 134 RX2 yX2_sum wsX2_sum) := goodIn_app (goodIn_of _ (by decide +kernel)) ggX2_count_X2_sum
set_option maxRecDepth 20000 in
theorem ggX2_count_X2_wrongCorners : GoodIn wsX2_count wsX2_wrongCorners := goodIn_r _ [33, 1, 45, 46, 47, 48, 49, 50, 51, 52, 53, 54, 55, 56, 57] (by decide +kernel) (by decide +kernel)
set_option maxRecDepth 20000 in
theorem gX2_count_X2_wrongCorners : GoodIn wsX2_count (wsV RX2 115 RX2 yX2_wrongCorners wsX2_wrongCorners) := goodIn_app (goodIn_of _ (by decide +kernel)) ggX2_count_X2_wrongCorners
set_option maxRecDepth 20000 in
theorem ggX2_count_X2_punPairs : GoodIn wsX2_count wsX2_punPairs := goodIn_r _ [37, 1, 38, 39, 40, 8, 41, 14, 15, 16, 17, 45, 46, 47, 48, 49, 50, 51, 52, 53, 54, 55, 56, 57] (by decide +kernel) (by decide +kernel)
set_option maxRecDepth 20000 in
theorem gX2_count_X2_punPairs : GoodIn wsX2_count (wsV RX2 137 RX2 yX2_punPairs wsX2_punPairs) := goodIn_app (goodIn_of _ (by decide +kernel)) ggX2_count_X2_punPairs
set_option maxRecDepth 20000 in
theorem ggX2_count_X2_in : GoodIn wsX2_count wsX2_in := goodIn_r _ [44] (by decide +kernel) (by decide +kernel)
set_option maxRecDepth 20000 in
theorem gX2_count_X2_in : GoodIn wsX2_count (va_wsS RX2 41 yX2_in wsX2_in) := goodIn_app (goodIn_of _ (by decide +kernel)) ggX2_count_X2_in
theorem dX2_count_0 : decode cX2_count 0 = .ok (.iload_n 1, 1) := by decide +kernel
theorem dX2_count_1 : decode cX2_count 1 = .ok (.tableswitch 105 6 14 #[51, 56, 61, 69, 77, 85, 90, 95, 100], 51) := by decide +kernel
theorem dX2_count_52 : decode cX2_count 52 = .ok (.aload_n 0, 1) := by decide +kernel
theorem dX2_count_53 : decode cX2_count 53 = .ok (.invokevirtual 128, 3) := by decide +kernel
theorem dX2_count_56 : decode cX2_count 56 = .ok (.ireturn, 1) := by decide +kernel
theorem dX2_count_57 : decode cX2_count 57 = .ok (.aload_n 0, 1) := by decide +kernel
theorem dX2_count_58 : decode cX2_count 58 = .ok (.invokevirtual 131, 3) := by decide +kernel
theorem dX2_count_61 : decode cX2_count 61 = .ok (.ireturn, 1) := by decide +kernel
theorem dX2_count_62 : decode cX2_count 62 = .ok (.aload_n 0, 1) := by decide +kernel
theorem dX2_count_63 : decode cX2_count 63 = .ok (.sipush 261, 3) := by decide +kernel
theorem dX2_count_66 : decode cX2_count 66 = .ok (.invokevirtual 134, 3) := by decide +kernel
theorem dX2_count_69 : decode cX2_count 69 = .ok (.ireturn, 1) := by decide +kernel
theorem dX2_count_70 : decode cX2_count 70 = .ok (.aload_n 0, 1) := by decide +kernel
theorem dX2_count_71 : decode cX2_count 71 = .ok (.getfield 7, 3) := by decide +kernel
theorem dX2_count_74 : decode cX2_count 74 = .ok (.bipush 7, 2) := by decide +kernel
theorem dX2_count_76 : decode cX2_count 76 = .ok (.iaload, 1) := by decide +kernel
theorem dX2_count_77 : decode cX2_count 77 = .ok (.ireturn, 1) := by decide +kernel
theorem dX2_count_78 : decode cX2_count 78 = .ok (.aload_n 0, 1) := by decide +kernel
theorem dX2_count_79 : decode cX2_count 79 = .ok (.getfield 7, 3) := by decide +kernel
theorem dX2_count_82 : decode cX2_count 82 = .ok (.bipush 8, 2) := by decide +kernel
theorem dX2_count_84 : decode cX2_count 84 = .ok (.iaload, 1) := by decide +kernel
theorem dX2_count_85 : decode cX2_count 85 = .ok (.ireturn, 1) := by decide +kernel
theorem dX2_count_86 : decode cX2_count 86 = .ok (.aload_n 0, 1) := by decide +kernel
theorem dX2_count_87 : decode cX2_count 87 = .ok (.invokevirtual 115, 3) := by decide +kernel
theorem dX2_count_90 : decode cX2_count 90 = .ok (.ireturn, 1) := by decide +kernel
theorem dX2_count_91 : decode cX2_count 91 = .ok (.aload_n 0, 1) := by decide +kernel
theorem dX2_count_92 : decode cX2_count 92 = .ok (.invokevirtual 137, 3) := by decide +kernel
theorem dX2_count_95 : decode cX2_count 95 = .ok (.ireturn, 1) := by decide +kernel
theorem dX2_count_96 : decode cX2_count 96 = .ok (.aload_n 0, 1) := by decide +kernel
theorem dX2_count_97 : decode cX2_count 97 = .ok (.getfield 140, 3) := by decide +kernel
theorem dX2_count_100 : decode cX2_count 100 = .ok (.ireturn, 1) := by decide +kernel
theorem dX2_count_101 : decode cX2_count 101 = .ok (.aload_n 0, 1) := by decide +kernel
theorem dX2_count_102 : decode cX2_count 102 = .ok (.getfield 37, 3) := by decide +kernel
theorem dX2_count_105 : decode cX2_count 105 = .ok (.ireturn, 1) := by decide +kernel
theorem dX2_count_106 : decode cX2_count 106 = .ok (.iload_n 1, 1) := by decide +kernel
theorem dX2_count_107 : decode cX2_count 107 = .ok (.i2l, 1) := by decide +kernel
theorem dX2_count_108 : decode cX2_count 108 = .ok (.lconst 0, 1) := by decide +kernel
theorem dX2_count_109 : decode cX2_count 109 = .ok (.ldc2_w 126, 3) := by decide +kernel
theorem dX2_count_112 : decode cX2_count 112 = .ok (.invokestatic 41, 3) := by decide +kernel
theorem dX2_count_115 : decode cX2_count 115 = .ok (.ifCond .eq 12, 3) := by decide +kernel
theorem dX2_count_118 : decode cX2_count 118 = .ok (.aload_n 0, 1) := by decide +kernel
theorem dX2_count_119 : decode cX2_count 119 = .ok (.getfield 7, 3) := by decide +kernel
theorem dX2_count_122 : decode cX2_count 122 = .ok (.iload_n 1, 1) := by decide +kernel
theorem dX2_count_123 : decode cX2_count 123 = .ok (.iaload, 1) := by decide +kernel
theorem dX2_count_124 : decode cX2_count 124 = .ok (.goto 5, 3) := by decide +kernel
theorem dX2_count_127 : decode cX2_count 127 = .ok (.bipush (-2), 2) := by decide +kernel
theorem dX2_count_129 : decode cX2_count 129 = .ok (.ireturn, 1) := by decide +kernel
set_option maxRecDepth 20000 in
theorem ggX2_bestCorner_X2_isName : GoodIn wsX2_bestCorner wsX2_isName := goodIn_r _ [5, 6, 7, 8, 4, 9, 37, 38, 39, 40, 41, 42, 43, 44, 45, 46, 47, 48, 49] (by decide +kernel) (by decide +kernel)
set_option maxRecDepth 20000 in
theorem gX2_bestCorner_X2_isName : GoodIn wsX2_bestCorner (wsV RX2 104 RX2 yX2_isName wsX2_isName) := goodIn_app (goodIn_of _ (by decide +kernel)) ggX2_bestCorner_X2_isName
set_option maxRecDepth 20000 in
theorem ggX2_bestCorner_X2_lowest : GoodIn wsX2_bestCorner wsX2_lowest := goodIn_r _ [13, 14, 15, 16, 4, 17, 6, 18, 19, 20, 21, 22, 23, 24, 25, 26, 27, 28, 29, 30, 31, 32, 33, 34, 35, 36, 37, 38, 39, 40, 41, 42, 43, 44, 45, 46, 47, 48, 49] (by decide +kernel) (by decide +kernel)
set_option maxRecDepth 20000 in
theorem gX2_bestCorner_X2_lowest : GoodIn wsX2_bestCorner (wsV RX2 78 RX2 yX2_lowest wsX2_lowest) := goodIn_app (goodIn_of _ (by decide +kernel)) ggX2_bestCorner_X2_lowest
theorem dX2_bestCorner_0 : decode cX2_bestCorner 0 = .ok (.aload_n 0, 1) := by decide +kernel
theorem dX2_bestCorner_1 : decode cX2_bestCorner 1 = .ok (.iload_n 1, 1) := by decide +kernel
theorem dX2_bestCorner_2 : decode cX2_bestCorner 2 = .ok (.invokevirtual 104, 3) := by decide +kernel
theorem dX2_bestCorner_5 : decode cX2_bestCorner 5 = .ok (.ifCond .eq 11, 3) := by decide +kernel
theorem dX2_bestCorner_8 : decode cX2_bestCorner 8 = .ok (.aload_n 0, 1) := by decide +kernel
theorem dX2_bestCorner_9 : decode cX2_bestCorner 9 = .ok (.iload_n 1, 1) := by decide +kernel
theorem dX2_bestCorner_10 : decode cX2_bestCorner 10 = .ok (.invokevirtual 78, 3) := by decide +kernel
theorem dX2_bestCorner_13 : decode cX2_bestCorner 13 = .ok (.goto 4, 3) := by decide +kernel
theorem dX2_bestCorner_16 : decode cX2_bestCorner 16 = .ok (.iconst (-1), 1) := by decide +kernel
theorem dX2_bestCorner_17 : decode cX2_bestCorner 17 = .ok (.ireturn, 1) := by decide +kernel
set_option maxRecDepth 20000 in
theorem ggX2_until_X2_keeps : GoodIn wsX2_until wsX2_keeps := goodIn_r _ [5, 6, 7, 71, 72, 73, 74, 75, 76, 77, 78, 79, 80, 81, 82, 83] (by decide +kernel) (by decide +kernel)
set_option maxRecDepth 20000 in
theorem gX2_until_X2_keeps : GoodIn wsX2_until (wsV RX2 143 RX2 yX2_keeps wsX2_keeps) := goodIn_app (goodIn_of _ (by decide +kernel)) ggX2_until_X2_keeps
set_option maxRecDepth 20000 in
theorem ggX2_until_X2_sum : GoodIn wsX2_until wsX2_sum := goodIn_r _ [11, 7, 71, 72, 73, 74, 75, 76, 77, 78, 79, 80, 81, 82, 83] (by decide +kernel) (by decide +kernel)
set_option maxRecDepth 20000 in
theorem gX2_until_X2_sum : GoodIn wsX2_until (wsV RX2 134 RX2 yX2_sum wsX2_sum) := goodIn_app (goodIn_of _ (by decide +kernel)) ggX2_until_X2_sum
set_option maxRecDepth 20000 in
theorem ggX2_until_X2_whereIs : GoodIn wsX2_until wsX2_whereIs := goodIn_r _ [15, 16, 17, 18, 4, 19, 7, 20, 21, 22, 23, 71, 72, 73, 74, 75, 76, 77, 78, 79, 80, 81, 82, 83] (by decide +kernel) (by decide +kernel)
set_option maxRecDepth 20000 in
theorem gX2_until_X2_whereIs : GoodIn wsX2_until (wsV RX2 72 RX2 yX2_whereIs wsX2_whereIs) := goodIn_app (goodIn_of _ (by decide +kernel)) ggX2_until_X2_whereIs
set_option maxRecDepth 20000 in
theorem ggX2_until_X2_day : GoodIn wsX2_until wsX2_day := goodIn_r _ [27, 7, 28, 29, 30, 4, 31, 12, 13, 14, 15, 16, 17, 18, 19, 20, 21, 22, 23, 32, 33, 34, 35, 36, 37, 38, 39, 40, 41, 42, 43, 44, 45, 46, 47, 48, 49, 50, 51, 52, 53, 54, 55, 56, 57, 58, 59, 60, 61, 62, 63, 64, 65, 66, 71, 72, 73, 74, 75, 76, 77, 78, 79, 80, 81, 82, 83] (by decide +kernel) (by decide +kernel)
set_option maxRecDepth 20000 in
theorem gX2_until_X2_day : GoodIn wsX2_until (wsV RX2 120 RX2 yX2_day wsX2_day) := goodIn_app (goodIn_of _ (by decide +kernel)) ggX2_until_X2_day
set_option maxRecDepth 20000 in
theorem ggX2_until_X2_comesBack : GoodIn wsX2_until wsX2_comesBack := goodIn_r _ [70, 7, 6, 71, 72, 73, 74, 75, 76, 77, 78, 79, 80, 81, 82, 83] (by decide +kernel) (by decide +kernel)
set_option maxRecDepth 20000 in
theorem gX2_until_X2_comesBack : GoodIn wsX2_until (wsV RX2 146 RX2 yX2_comesBack wsX2_comesBack) := goodIn_app (goodIn_of _ (by decide +kernel)) ggX2_until_X2_comesBack
theorem dX2_until_0 : decode cX2_until 0 = .ok (.aload_n 0, 1) := by decide +kernel
theorem dX2_until_1 : decode cX2_until 1 = .ok (.invokevirtual 143, 3) := by decide +kernel
theorem dX2_until_4 : decode cX2_until 4 = .ok (.iconst 0, 1) := by decide +kernel
theorem dX2_until_5 : decode cX2_until 5 = .ok (.istore_n 2, 1) := by decide +kernel
theorem dX2_until_6 : decode cX2_until 6 = .ok (.iload_n 2, 1) := by decide +kernel
theorem dX2_until_7 : decode cX2_until 7 = .ok (.sipush 300, 3) := by decide +kernel
theorem dX2_until_10 : decode cX2_until 10 = .ok (.if_icmp .gt 41, 3) := by decide +kernel
theorem dX2_until_13 : decode cX2_until 13 = .ok (.iload_n 1, 1) := by decide +kernel
theorem dX2_until_14 : decode cX2_until 14 = .ok (.bipush (-6), 2) := by decide +kernel
theorem dX2_until_16 : decode cX2_until 16 = .ok (.if_icmp .ne 16, 3) := by decide +kernel
theorem dX2_until_19 : decode cX2_until 19 = .ok (.aload_n 0, 1) := by decide +kernel
theorem dX2_until_20 : decode cX2_until 20 = .ok (.sipush 261, 3) := by decide +kernel
theorem dX2_until_23 : decode cX2_until 23 = .ok (.invokevirtual 134, 3) := by decide +kernel
theorem dX2_until_26 : decode cX2_until 26 = .ok (.ifCond .ne 15, 3) := by decide +kernel
theorem dX2_until_29 : decode cX2_until 29 = .ok (.goto 22, 3) := by decide +kernel
theorem dX2_until_32 : decode cX2_until 32 = .ok (.aload_n 0, 1) := by decide +kernel
theorem dX2_until_33 : decode cX2_until 33 = .ok (.iload_n 1, 1) := by decide +kernel
theorem dX2_until_34 : decode cX2_until 34 = .ok (.invokevirtual 72, 3) := by decide +kernel
theorem dX2_until_37 : decode cX2_until 37 = .ok (.iconst 1, 1) := by decide +kernel
theorem dX2_until_38 : decode cX2_until 38 = .ok (.if_icmp .eq 13, 3) := by decide +kernel
theorem dX2_until_41 : decode cX2_until 41 = .ok (.aload_n 0, 1) := by decide +kernel
theorem dX2_until_42 : decode cX2_until 42 = .ok (.invokevirtual 120, 3) := by decide +kernel
theorem dX2_until_45 : decode cX2_until 45 = .ok (.iinc 2 1, 3) := by decide +kernel
theorem dX2_until_48 : decode cX2_until 48 = .ok (.goto (-42), 3) := by decide +kernel
theorem dX2_until_51 : decode cX2_until 51 = .ok (.aload_n 0, 1) := by decide +kernel
theorem dX2_until_52 : decode cX2_until 52 = .ok (.invokevirtual 146, 3) := by decide +kernel
theorem dX2_until_55 : decode cX2_until 55 = .ok (.iload_n 2, 1) := by decide +kernel
theorem dX2_until_56 : decode cX2_until 56 = .ok (.sipush 300, 3) := by decide +kernel
theorem dX2_until_59 : decode cX2_until 59 = .ok (.if_icmp .le 8, 3) := by decide +kernel
theorem dX2_until_62 : decode cX2_until 62 = .ok (.bipush (-6), 2) := by decide +kernel
theorem dX2_until_64 : decode cX2_until 64 = .ok (.goto 4, 3) := by decide +kernel
theorem dX2_until_67 : decode cX2_until 67 = .ok (.iload_n 2, 1) := by decide +kernel
theorem dX2_until_68 : decode cX2_until 68 = .ok (.ireturn, 1) := by decide +kernel
set_option maxRecDepth 20000 in
theorem ggX2_untilBorne_X2_isName : GoodIn wsX2_untilBorne wsX2_isName := goodIn_r _ [5, 6, 7, 8, 4, 9, 82, 83, 84, 85, 86, 87, 88, 89, 90, 91, 92, 93, 94] (by decide +kernel) (by decide +kernel)
set_option maxRecDepth 20000 in
theorem gX2_untilBorne_X2_isName : GoodIn wsX2_untilBorne (wsV RX2 104 RX2 yX2_isName wsX2_isName) := goodIn_app (goodIn_of _ (by decide +kernel)) ggX2_untilBorne_X2_isName
set_option maxRecDepth 20000 in
theorem ggX2_untilBorne_X2_until : GoodIn wsX2_untilBorne wsX2_until := goodIn_r _ [13, 14, 15, 16, 4, 17, 18, 6, 19, 20, 21, 22, 23, 24, 25, 26, 27, 28, 29, 30, 31, 32, 33, 34, 35, 36, 37, 38, 39, 40, 41, 42, 43, 44, 45, 46, 47, 48, 49, 50, 51, 52, 53, 54, 55, 56, 57, 58, 59, 60, 61, 62, 63, 64, 65, 66, 67, 68, 69, 70, 71, 72, 73, 74, 75, 76, 77, 78, 79, 80, 81, 82, 83, 84, 85, 86, 87, 88, 89, 90, 91, 92, 93, 94] (by decide +kernel) (by decide +kernel)
set_option maxRecDepth 20000 in
theorem gX2_untilBorne_X2_until : GoodIn wsX2_untilBorne (wsV RX2 149 RX2 yX2_until wsX2_until) := goodIn_app (goodIn_of _ (by decide +kernel)) ggX2_untilBorne_X2_until
theorem dX2_untilBorne_0 : decode cX2_untilBorne 0 = .ok (.aload_n 0, 1) := by decide +kernel
theorem dX2_untilBorne_1 : decode cX2_untilBorne 1 = .ok (.iload_n 1, 1) := by decide +kernel
theorem dX2_untilBorne_2 : decode cX2_untilBorne 2 = .ok (.invokevirtual 104, 3) := by decide +kernel
theorem dX2_untilBorne_5 : decode cX2_untilBorne 5 = .ok (.ifCond .eq 11, 3) := by decide +kernel
theorem dX2_untilBorne_8 : decode cX2_untilBorne 8 = .ok (.aload_n 0, 1) := by decide +kernel
theorem dX2_untilBorne_9 : decode cX2_untilBorne 9 = .ok (.iload_n 1, 1) := by decide +kernel
theorem dX2_untilBorne_10 : decode cX2_untilBorne 10 = .ok (.invokevirtual 149, 3) := by decide +kernel
theorem dX2_untilBorne_13 : decode cX2_untilBorne 13 = .ok (.goto 4, 3) := by decide +kernel
theorem dX2_untilBorne_16 : decode cX2_untilBorne 16 = .ok (.iconst (-1), 1) := by decide +kernel
theorem dX2_untilBorne_17 : decode cX2_untilBorne 17 = .ok (.ireturn, 1) := by decide +kernel
set_option maxRecDepth 20000 in
theorem ggX2_untilPosted_X2_until : GoodIn wsX2_untilPosted wsX2_until := goodIn_r _ [5, 6, 7, 8, 4, 9, 10, 11, 12, 13, 14, 15, 16, 17, 18, 19, 20, 21, 22, 23, 24, 25, 26, 27, 28, 29, 30, 31, 32, 33, 34, 35, 36, 37, 38, 39, 40, 41, 42, 43, 44, 45, 46, 47, 48, 49, 50, 51, 52, 53, 54, 55, 56, 57, 58, 59, 60, 61, 62, 63, 64, 65, 66, 67, 68, 69, 70, 71, 72, 73, 74, 75, 76, 77, 78, 79, 80, 81, 82, 83, 84, 85, 86, 87] (by decide +kernel) (by decide +kernel)
set_option maxRecDepth 20000 in
theorem gX2_untilPosted_X2_until : GoodIn wsX2_untilPosted (wsV RX2 149 RX2 yX2_until wsX2_until) := goodIn_app (goodIn_of _ (by decide +kernel)) ggX2_untilPosted_X2_until
theorem dX2_untilPosted_0 : decode cX2_untilPosted 0 = .ok (.aload_n 0, 1) := by decide +kernel
theorem dX2_untilPosted_1 : decode cX2_untilPosted 1 = .ok (.bipush (-6), 2) := by decide +kernel
theorem dX2_untilPosted_3 : decode cX2_untilPosted 3 = .ok (.invokevirtual 149, 3) := by decide +kernel
theorem dX2_untilPosted_6 : decode cX2_untilPosted 6 = .ok (.ireturn, 1) := by decide +kernel
set_option maxRecDepth 20000 in
theorem ggX2_ifPassed_X2_in : GoodIn wsX2_ifPassed wsX2_in := goodIn_r _ [8] (by decide +kernel) (by decide +kernel)
set_option maxRecDepth 20000 in
theorem gX2_ifPassed_X2_in : GoodIn wsX2_ifPassed (va_wsS RX2 41 yX2_in wsX2_in) := goodIn_app (goodIn_of _ (by decide +kernel)) ggX2_ifPassed_X2_in
set_option maxRecDepth 20000 in
theorem ggX2_ifPassed_X2_keeps : GoodIn wsX2_ifPassed wsX2_keeps := goodIn_r _ [12, 4, 3, 76, 77, 78, 79, 80, 81, 82, 83, 84, 85, 86, 87, 88] (by decide +kernel) (by decide +kernel)
set_option maxRecDepth 20000 in
theorem gX2_ifPassed_X2_keeps : GoodIn wsX2_ifPassed (wsV RX2 143 RX2 yX2_keeps wsX2_keeps) := goodIn_app (goodIn_of _ (by decide +kernel)) ggX2_ifPassed_X2_keeps
set_option maxRecDepth 20000 in
theorem ggX2_ifPassed_X2_day : GoodIn wsX2_ifPassed wsX2_day := goodIn_r _ [16, 3, 17, 18, 19, 7, 20, 21, 22, 23, 24, 25, 26, 27, 28, 29, 30, 31, 32, 33, 34, 35, 36, 37, 38, 39, 40, 41, 42, 43, 44, 45, 46, 47, 48, 49, 50, 51, 52, 53, 54, 55, 56, 57, 58, 59, 60, 61, 62, 63, 64, 65, 66, 67, 76, 77, 78, 79, 80, 81, 82, 83, 84, 85, 86, 87, 88] (by decide +kernel) (by decide +kernel)
set_option maxRecDepth 20000 in
theorem gX2_ifPassed_X2_day : GoodIn wsX2_ifPassed (wsV RX2 120 RX2 yX2_day wsX2_day) := goodIn_app (goodIn_of _ (by decide +kernel)) ggX2_ifPassed_X2_day
set_option maxRecDepth 20000 in
theorem ggX2_ifPassed_X2_sum : GoodIn wsX2_ifPassed wsX2_sum := goodIn_r _ [71, 3, 76, 77, 78, 79, 80, 81, 82, 83, 84, 85, 86, 87, 88] (by decide +kernel) (by decide +kernel)
set_option maxRecDepth 20000 in
theorem gX2_ifPassed_X2_sum : GoodIn wsX2_ifPassed (wsV RX2 134 RX2 yX2_sum wsX2_sum) := goodIn_app (goodIn_of _ (by decide +kernel)) ggX2_ifPassed_X2_sum
set_option maxRecDepth 20000 in
theorem ggX2_ifPassed_X2_comesBack : GoodIn wsX2_ifPassed wsX2_comesBack := goodIn_r _ [75, 3, 4, 76, 77, 78, 79, 80, 81, 82, 83, 84, 85, 86, 87, 88] (by decide +kernel) (by decide +kernel)
set_option maxRecDepth 20000 in
theorem gX2_ifPassed_X2_comesBack : GoodIn wsX2_ifPassed (wsV RX2 146 RX2 yX2_comesBack wsX2_comesBack) := goodIn_app (goodIn_of _ (by decide +kernel)) ggX2_ifPassed_X2_comesBack
theorem dX2_ifPassed_0 : decode cX2_ifPassed 0 = .ok (.iload_n 1, 1) := by decide +kernel
theorem dX2_ifPassed_1 : decode cX2_ifPassed 1 = .ok (.i2l, 1) := by decide +kernel
theorem dX2_ifPassed_2 : decode cX2_ifPassed 2 = .ok (.lconst 1, 1) := by decide +kernel
theorem dX2_ifPassed_3 : decode cX2_ifPassed 3 = .ok (.ldc2_w 152, 3) := by decide +kernel
theorem dX2_ifPassed_6 : decode cX2_ifPassed 6 = .ok (.invokestatic 41, 3) := by decide +kernel
theorem dX2_ifPassed_9 : decode cX2_ifPassed 9 = .ok (.ifCond .eq 15, 3) := by decide +kernel
theorem dX2_ifPassed_12 : decode cX2_ifPassed 12 = .ok (.iload_n 2, 1) := by decide +kernel
theorem dX2_ifPassed_13 : decode cX2_ifPassed 13 = .ok (.i2l, 1) := by decide +kernel
theorem dX2_ifPassed_14 : decode cX2_ifPassed 14 = .ok (.lconst 0, 1) := by decide +kernel
theorem dX2_ifPassed_15 : decode cX2_ifPassed 15 = .ok (.ldc2_w 154, 3) := by decide +kernel
theorem dX2_ifPassed_18 : decode cX2_ifPassed 18 = .ok (.invokestatic 41, 3) := by decide +kernel
theorem dX2_ifPassed_21 : decode cX2_ifPassed 21 = .ok (.ifCond .ne 6, 3) := by decide +kernel
theorem dX2_ifPassed_24 : decode cX2_ifPassed 24 = .ok (.bipush (-2), 2) := by decide +kernel
theorem dX2_ifPassed_26 : decode cX2_ifPassed 26 = .ok (.ireturn, 1) := by decide +kernel
theorem dX2_ifPassed_27 : decode cX2_ifPassed 27 = .ok (.aload_n 0, 1) := by decide +kernel
theorem dX2_ifPassed_28 : decode cX2_ifPassed 28 = .ok (.invokevirtual 143, 3) := by decide +kernel
theorem dX2_ifPassed_31 : decode cX2_ifPassed 31 = .ok (.iconst 0, 1) := by decide +kernel
theorem dX2_ifPassed_32 : decode cX2_ifPassed 32 = .ok (.istore_n 3, 1) := by decide +kernel
theorem dX2_ifPassed_33 : decode cX2_ifPassed 33 = .ok (.iload_n 3, 1) := by decide +kernel
theorem dX2_ifPassed_34 : decode cX2_ifPassed 34 = .ok (.iload_n 1, 1) := by decide +kernel
theorem dX2_ifPassed_35 : decode cX2_ifPassed 35 = .ok (.if_icmp .ge 13, 3) := by decide +kernel
theorem dX2_ifPassed_38 : decode cX2_ifPassed 38 = .ok (.aload_n 0, 1) := by decide +kernel
theorem dX2_ifPassed_39 : decode cX2_ifPassed 39 = .ok (.invokevirtual 120, 3) := by decide +kernel
theorem dX2_ifPassed_42 : decode cX2_ifPassed 42 = .ok (.iinc 3 1, 3) := by decide +kernel
theorem dX2_ifPassed_45 : decode cX2_ifPassed 45 = .ok (.goto (-12), 3) := by decide +kernel
theorem dX2_ifPassed_48 : decode cX2_ifPassed 48 = .ok (.iload_n 2, 1) := by decide +kernel
theorem dX2_ifPassed_49 : decode cX2_ifPassed 49 = .ok (.ifCond .ne 21, 3) := by decide +kernel
theorem dX2_ifPassed_52 : decode cX2_ifPassed 52 = .ok (.aload_n 0, 1) := by decide +kernel
theorem dX2_ifPassed_53 : decode cX2_ifPassed 53 = .ok (.getfield 7, 3) := by decide +kernel
theorem dX2_ifPassed_56 : decode cX2_ifPassed 56 = .ok (.bipush 8, 2) := by decide +kernel
theorem dX2_ifPassed_58 : decode cX2_ifPassed 58 = .ok (.iaload, 1) := by decide +kernel
theorem dX2_ifPassed_59 : decode cX2_ifPassed 59 = .ok (.aload_n 0, 1) := by decide +kernel
theorem dX2_ifPassed_60 : decode cX2_ifPassed 60 = .ok (.getfield 13, 3) := by decide +kernel
theorem dX2_ifPassed_63 : decode cX2_ifPassed 63 = .ok (.bipush 8, 2) := by decide +kernel
theorem dX2_ifPassed_65 : decode cX2_ifPassed 65 = .ok (.iaload, 1) := by decide +kernel
theorem dX2_ifPassed_66 : decode cX2_ifPassed 66 = .ok (.isub, 1) := by decide +kernel
theorem dX2_ifPassed_67 : decode cX2_ifPassed 67 = .ok (.goto 33, 3) := by decide +kernel
theorem dX2_ifPassed_70 : decode cX2_ifPassed 70 = .ok (.iload_n 2, 1) := by decide +kernel
theorem dX2_ifPassed_71 : decode cX2_ifPassed 71 = .ok (.iconst 1, 1) := by decide +kernel
theorem dX2_ifPassed_72 : decode cX2_ifPassed 72 = .ok (.if_icmp .ne 21, 3) := by decide +kernel
theorem dX2_ifPassed_75 : decode cX2_ifPassed 75 = .ok (.aload_n 0, 1) := by decide +kernel
theorem dX2_ifPassed_76 : decode cX2_ifPassed 76 = .ok (.getfield 7, 3) := by decide +kernel
theorem dX2_ifPassed_79 : decode cX2_ifPassed 79 = .ok (.bipush 7, 2) := by decide +kernel
theorem dX2_ifPassed_81 : decode cX2_ifPassed 81 = .ok (.iaload, 1) := by decide +kernel
theorem dX2_ifPassed_82 : decode cX2_ifPassed 82 = .ok (.aload_n 0, 1) := by decide +kernel
theorem dX2_ifPassed_83 : decode cX2_ifPassed 83 = .ok (.getfield 13, 3) := by decide +kernel
theorem dX2_ifPassed_86 : decode cX2_ifPassed 86 = .ok (.bipush 7, 2) := by decide +kernel
theorem dX2_ifPassed_88 : decode cX2_ifPassed 88 = .ok (.iaload, 1) := by decide +kernel
theorem dX2_ifPassed_89 : decode cX2_ifPassed 89 = .ok (.isub, 1) := by decide +kernel
theorem dX2_ifPassed_90 : decode cX2_ifPassed 90 = .ok (.goto 10, 3) := by decide +kernel
theorem dX2_ifPassed_93 : decode cX2_ifPassed 93 = .ok (.aload_n 0, 1) := by decide +kernel
theorem dX2_ifPassed_94 : decode cX2_ifPassed 94 = .ok (.sipush 261, 3) := by decide +kernel
theorem dX2_ifPassed_97 : decode cX2_ifPassed 97 = .ok (.invokevirtual 134, 3) := by decide +kernel
theorem dX2_ifPassed_100 : decode cX2_ifPassed 100 = .ok (.istore_n 3, 1) := by decide +kernel
theorem dX2_ifPassed_101 : decode cX2_ifPassed 101 = .ok (.aload_n 0, 1) := by decide +kernel
theorem dX2_ifPassed_102 : decode cX2_ifPassed 102 = .ok (.invokevirtual 146, 3) := by decide +kernel
theorem dX2_ifPassed_105 : decode cX2_ifPassed 105 = .ok (.iload_n 3, 1) := by decide +kernel
theorem dX2_ifPassed_106 : decode cX2_ifPassed 106 = .ok (.ireturn, 1) := by decide +kernel
set_option maxRecDepth 20000 in
theorem ggX2_charactersOf_X2_in : GoodIn wsX2_charactersOf wsX2_in := goodIn_r _ [7] (by decide +kernel) (by decide +kernel)
set_option maxRecDepth 20000 in
theorem gX2_charactersOf_X2_in : GoodIn wsX2_charactersOf (va_wsS RX2 41 yX2_in wsX2_in) := goodIn_app (goodIn_of _ (by decide +kernel)) ggX2_charactersOf_X2_in
theorem dX2_charactersOf_0 : decode cX2_charactersOf 0 = .ok (.lload_n 0, 1) := by decide +kernel
theorem dX2_charactersOf_1 : decode cX2_charactersOf 1 = .ok (.lstore_n 2, 1) := by decide +kernel
theorem dX2_charactersOf_2 : decode cX2_charactersOf 2 = .ok (.iconst 0, 1) := by decide +kernel
theorem dX2_charactersOf_3 : decode cX2_charactersOf 3 = .ok (.istore 4, 2) := by decide +kernel
theorem dX2_charactersOf_5 : decode cX2_charactersOf 5 = .ok (.iload 4, 2) := by decide +kernel
theorem dX2_charactersOf_7 : decode cX2_charactersOf 7 = .ok (.bipush 8, 2) := by decide +kernel
theorem dX2_charactersOf_9 : decode cX2_charactersOf 9 = .ok (.if_icmp .ge 31, 3) := by decide +kernel
theorem dX2_charactersOf_12 : decode cX2_charactersOf 12 = .ok (.lload_n 2, 1) := by decide +kernel
theorem dX2_charactersOf_13 : decode cX2_charactersOf 13 = .ok (.ldc2_w 156, 3) := by decide +kernel
theorem dX2_charactersOf_16 : decode cX2_charactersOf 16 = .ok (.land, 1) := by decide +kernel
theorem dX2_charactersOf_17 : decode cX2_charactersOf 17 = .ok (.ldc2_w 158, 3) := by decide +kernel
theorem dX2_charactersOf_20 : decode cX2_charactersOf 20 = .ok (.ldc2_w 160, 3) := by decide +kernel
theorem dX2_charactersOf_23 : decode cX2_charactersOf 23 = .ok (.invokestatic 41, 3) := by decide +kernel
theorem dX2_charactersOf_26 : decode cX2_charactersOf 26 = .ok (.ifCond .eq 14, 3) := by decide +kernel
theorem dX2_charactersOf_29 : decode cX2_charactersOf 29 = .ok (.lload_n 2, 1) := by decide +kernel
theorem dX2_charactersOf_30 : decode cX2_charactersOf 30 = .ok (.bipush 8, 2) := by decide +kernel
theorem dX2_charactersOf_32 : decode cX2_charactersOf 32 = .ok (.lushr, 1) := by decide +kernel
theorem dX2_charactersOf_33 : decode cX2_charactersOf 33 = .ok (.lstore_n 2, 1) := by decide +kernel
theorem dX2_charactersOf_34 : decode cX2_charactersOf 34 = .ok (.iinc 4 1, 3) := by decide +kernel
theorem dX2_charactersOf_37 : decode cX2_charactersOf 37 = .ok (.goto (-32), 3) := by decide +kernel
theorem dX2_charactersOf_40 : decode cX2_charactersOf 40 = .ok (.lload_n 2, 1) := by decide +kernel
theorem dX2_charactersOf_41 : decode cX2_charactersOf 41 = .ok (.lconst 0, 1) := by decide +kernel
theorem dX2_charactersOf_42 : decode cX2_charactersOf 42 = .ok (.lcmp, 1) := by decide +kernel
theorem dX2_charactersOf_43 : decode cX2_charactersOf 43 = .ok (.ifCond .ne 8, 3) := by decide +kernel
theorem dX2_charactersOf_46 : decode cX2_charactersOf 46 = .ok (.iload 4, 2) := by decide +kernel
theorem dX2_charactersOf_48 : decode cX2_charactersOf 48 = .ok (.goto 4, 3) := by decide +kernel
theorem dX2_charactersOf_51 : decode cX2_charactersOf 51 = .ok (.iconst 0, 1) := by decide +kernel
theorem dX2_charactersOf_52 : decode cX2_charactersOf 52 = .ok (.ireturn, 1) := by decide +kernel
set_option maxRecDepth 20000 in
theorem ggX2_put_X2_charactersOf : GoodIn wsX2_put wsX2_charactersOf := goodIn_r _ [7, 3, 8, 9, 10, 11, 6, 12] (by decide +kernel) (by decide +kernel)
set_option maxRecDepth 20000 in
theorem gX2_put_X2_charactersOf : GoodIn wsX2_put (va_wsS RX2 162 yX2_charactersOf wsX2_charactersOf) := goodIn_app (goodIn_of _ (by decide +kernel)) ggX2_put_X2_charactersOf
theorem dX2_put_0 : decode cX2_put 0 = .ok (.lload_n 1, 1) := by decide +kernel
theorem dX2_put_1 : decode cX2_put 1 = .ok (.invokestatic 162, 3) := by decide +kernel
theorem dX2_put_4 : decode cX2_put 4 = .ok (.istore_n 3, 1) := by decide +kernel
theorem dX2_put_5 : decode cX2_put 5 = .ok (.iload_n 3, 1) := by decide +kernel
theorem dX2_put_6 : decode cX2_put 6 = .ok (.ifCond .ne 6, 3) := by decide +kernel
theorem dX2_put_9 : decode cX2_put 9 = .ok (.bipush (-2), 2) := by decide +kernel
theorem dX2_put_11 : decode cX2_put 11 = .ok (.ireturn, 1) := by decide +kernel
theorem dX2_put_12 : decode cX2_put 12 = .ok (.aload_n 0, 1) := by decide +kernel
theorem dX2_put_13 : decode cX2_put 13 = .ok (.getfield 140, 3) := by decide +kernel
theorem dX2_put_16 : decode cX2_put 16 = .ok (.iload_n 3, 1) := by decide +kernel
theorem dX2_put_17 : decode cX2_put 17 = .ok (.iadd, 1) := by decide +kernel
theorem dX2_put_18 : decode cX2_put 18 = .ok (.bipush 60, 2) := by decide +kernel
theorem dX2_put_20 : decode cX2_put 20 = .ok (.if_icmp .le 6, 3) := by decide +kernel
theorem dX2_put_23 : decode cX2_put 23 = .ok (.bipush (-4), 2) := by decide +kernel
theorem dX2_put_25 : decode cX2_put 25 = .ok (.ireturn, 1) := by decide +kernel
theorem dX2_put_26 : decode cX2_put 26 = .ok (.iconst 0, 1) := by decide +kernel
theorem dX2_put_27 : decode cX2_put 27 = .ok (.istore 4, 2) := by decide +kernel
theorem dX2_put_29 : decode cX2_put 29 = .ok (.iload 4, 2) := by decide +kernel
theorem dX2_put_31 : decode cX2_put 31 = .ok (.iload_n 3, 1) := by decide +kernel
theorem dX2_put_32 : decode cX2_put 32 = .ok (.if_icmp .ge 37, 3) := by decide +kernel
theorem dX2_put_35 : decode cX2_put 35 = .ok (.aload_n 0, 1) := by decide +kernel
theorem dX2_put_36 : decode cX2_put 36 = .ok (.getfield 25, 3) := by decide +kernel
theorem dX2_put_39 : decode cX2_put 39 = .ok (.aload_n 0, 1) := by decide +kernel
theorem dX2_put_40 : decode cX2_put 40 = .ok (.getfield 140, 3) := by decide +kernel
theorem dX2_put_43 : decode cX2_put 43 = .ok (.iload 4, 2) := by decide +kernel
theorem dX2_put_45 : decode cX2_put 45 = .ok (.iadd, 1) := by decide +kernel
theorem dX2_put_46 : decode cX2_put 46 = .ok (.lload_n 1, 1) := by decide +kernel
theorem dX2_put_47 : decode cX2_put 47 = .ok (.bipush 8, 2) := by decide +kernel
theorem dX2_put_49 : decode cX2_put 49 = .ok (.iload_n 3, 1) := by decide +kernel
theorem dX2_put_50 : decode cX2_put 50 = .ok (.iconst 1, 1) := by decide +kernel
theorem dX2_put_51 : decode cX2_put 51 = .ok (.isub, 1) := by decide +kernel
theorem dX2_put_52 : decode cX2_put 52 = .ok (.iload 4, 2) := by decide +kernel
theorem dX2_put_54 : decode cX2_put 54 = .ok (.isub, 1) := by decide +kernel
theorem dX2_put_55 : decode cX2_put 55 = .ok (.imul, 1) := by decide +kernel
theorem dX2_put_56 : decode cX2_put 56 = .ok (.lushr, 1) := by decide +kernel
theorem dX2_put_57 : decode cX2_put 57 = .ok (.ldc2_w 156, 3) := by decide +kernel
theorem dX2_put_60 : decode cX2_put 60 = .ok (.land, 1) := by decide +kernel
theorem dX2_put_61 : decode cX2_put 61 = .ok (.l2i, 1) := by decide +kernel
theorem dX2_put_62 : decode cX2_put 62 = .ok (.iastore, 1) := by decide +kernel
theorem dX2_put_63 : decode cX2_put 63 = .ok (.iinc 4 1, 3) := by decide +kernel
theorem dX2_put_66 : decode cX2_put 66 = .ok (.goto (-37), 3) := by decide +kernel
theorem dX2_put_69 : decode cX2_put 69 = .ok (.aload_n 0, 1) := by decide +kernel
theorem dX2_put_70 : decode cX2_put 70 = .ok (.dup, 1) := by decide +kernel
theorem dX2_put_71 : decode cX2_put 71 = .ok (.getfield 140, 3) := by decide +kernel
theorem dX2_put_74 : decode cX2_put 74 = .ok (.iload_n 3, 1) := by decide +kernel
theorem dX2_put_75 : decode cX2_put 75 = .ok (.iadd, 1) := by decide +kernel
theorem dX2_put_76 : decode cX2_put 76 = .ok (.putfield 140, 3) := by decide +kernel
theorem dX2_put_79 : decode cX2_put 79 = .ok (.aload_n 0, 1) := by decide +kernel
theorem dX2_put_80 : decode cX2_put 80 = .ok (.getfield 140, 3) := by decide +kernel
theorem dX2_put_83 : decode cX2_put 83 = .ok (.ireturn, 1) := by decide +kernel
theorem dX2_wipe_0 : decode cX2_wipe 0 = .ok (.aload_n 0, 1) := by decide +kernel
theorem dX2_wipe_1 : decode cX2_wipe 1 = .ok (.getfield 140, 3) := by decide +kernel
theorem dX2_wipe_4 : decode cX2_wipe 4 = .ok (.istore_n 1, 1) := by decide +kernel
theorem dX2_wipe_5 : decode cX2_wipe 5 = .ok (.aload_n 0, 1) := by decide +kernel
theorem dX2_wipe_6 : decode cX2_wipe 6 = .ok (.iconst 0, 1) := by decide +kernel
theorem dX2_wipe_7 : decode cX2_wipe 7 = .ok (.putfield 140, 3) := by decide +kernel
theorem dX2_wipe_10 : decode cX2_wipe 10 = .ok (.iload_n 1, 1) := by decide +kernel
theorem dX2_wipe_11 : decode cX2_wipe 11 = .ok (.ireturn, 1) := by decide +kernel
set_option maxRecDepth 20000 in
theorem ggX2_isHere_X2_in : GoodIn wsX2_isHere wsX2_in := goodIn_r _ [7] (by decide +kernel) (by decide +kernel)
set_option maxRecDepth 20000 in
theorem gX2_isHere_X2_in : GoodIn wsX2_isHere (va_wsS RX2 41 yX2_in wsX2_in) := goodIn_app (goodIn_of _ (by decide +kernel)) ggX2_isHere_X2_in
theorem dX2_isHere_0 : decode cX2_isHere 0 = .ok (.aload_n 0, 1) := by decide +kernel
theorem dX2_isHere_1 : decode cX2_isHere 1 = .ok (.getfield 166, 3) := by decide +kernel
theorem dX2_isHere_4 : decode cX2_isHere 4 = .ok (.aload_n 0, 1) := by decide +kernel
theorem dX2_isHere_5 : decode cX2_isHere 5 = .ok (.getfield 140, 3) := by decide +kernel
theorem dX2_isHere_8 : decode cX2_isHere 8 = .ok (.if_icmp .ge 27, 3) := by decide +kernel
theorem dX2_isHere_11 : decode cX2_isHere 11 = .ok (.aload_n 0, 1) := by decide +kernel
theorem dX2_isHere_12 : decode cX2_isHere 12 = .ok (.getfield 25, 3) := by decide +kernel
theorem dX2_isHere_15 : decode cX2_isHere 15 = .ok (.aload_n 0, 1) := by decide +kernel
theorem dX2_isHere_16 : decode cX2_isHere 16 = .ok (.getfield 166, 3) := by decide +kernel
theorem dX2_isHere_19 : decode cX2_isHere 19 = .ok (.iaload, 1) := by decide +kernel
theorem dX2_isHere_20 : decode cX2_isHere 20 = .ok (.i2l, 1) := by decide +kernel
theorem dX2_isHere_21 : decode cX2_isHere 21 = .ok (.iload_n 1, 1) := by decide +kernel
theorem dX2_isHere_22 : decode cX2_isHere 22 = .ok (.i2l, 1) := by decide +kernel
theorem dX2_isHere_23 : decode cX2_isHere 23 = .ok (.iload_n 2, 1) := by decide +kernel
theorem dX2_isHere_24 : decode cX2_isHere 24 = .ok (.i2l, 1) := by decide +kernel
theorem dX2_isHere_25 : decode cX2_isHere 25 = .ok (.invokestatic 41, 3) := by decide +kernel
theorem dX2_isHere_28 : decode cX2_isHere 28 = .ok (.ifCond .eq 7, 3) := by decide +kernel
theorem dX2_isHere_31 : decode cX2_isHere 31 = .ok (.iconst 1, 1) := by decide +kernel
theorem dX2_isHere_32 : decode cX2_isHere 32 = .ok (.goto 4, 3) := by decide +kernel
theorem dX2_isHere_35 : decode cX2_isHere 35 = .ok (.iconst 0, 1) := by decide +kernel
theorem dX2_isHere_36 : decode cX2_isHere 36 = .ok (.ireturn, 1) := by decide +kernel
set_option maxRecDepth 20000 in
theorem ggX2_soundOf_X2_sign : GoodIn wsX2_soundOf wsX2_sign := goodIn_r _ [5] (by decide +kernel) (by decide +kernel)
set_option maxRecDepth 20000 in
theorem gX2_soundOf_X2_sign : GoodIn wsX2_soundOf (va_wsS RX2 169 yX2_sign wsX2_sign) := goodIn_app (goodIn_of _ (by decide +kernel)) ggX2_soundOf_X2_sign
theorem dX2_soundOf_0 : decode cX2_soundOf 0 = .ok (.iconst 0, 1) := by decide +kernel
theorem dX2_soundOf_1 : decode cX2_soundOf 1 = .ok (.istore_n 3, 1) := by decide +kernel
theorem dX2_soundOf_2 : decode cX2_soundOf 2 = .ok (.iconst 0, 1) := by decide +kernel
theorem dX2_soundOf_3 : decode cX2_soundOf 3 = .ok (.istore 4, 2) := by decide +kernel
theorem dX2_soundOf_5 : decode cX2_soundOf 5 = .ok (.iload_n 1, 1) := by decide +kernel
theorem dX2_soundOf_6 : decode cX2_soundOf 6 = .ok (.istore 5, 2) := by decide +kernel
theorem dX2_soundOf_8 : decode cX2_soundOf 8 = .ok (.iload 5, 2) := by decide +kernel
theorem dX2_soundOf_10 : decode cX2_soundOf 10 = .ok (.iload_n 2, 1) := by decide +kernel
theorem dX2_soundOf_11 : decode cX2_soundOf 11 = .ok (.if_icmp .ge 61, 3) := by decide +kernel
theorem dX2_soundOf_14 : decode cX2_soundOf 14 = .ok (.aload_n 0, 1) := by decide +kernel
theorem dX2_soundOf_15 : decode cX2_soundOf 15 = .ok (.getfield 25, 3) := by decide +kernel
theorem dX2_soundOf_18 : decode cX2_soundOf 18 = .ok (.iload 5, 2) := by decide +kernel
theorem dX2_soundOf_20 : decode cX2_soundOf 20 = .ok (.iaload, 1) := by decide +kernel
theorem dX2_soundOf_21 : decode cX2_soundOf 21 = .ok (.invokestatic 169, 3) := by decide +kernel
theorem dX2_soundOf_24 : decode cX2_soundOf 24 = .ok (.istore 6, 2) := by decide +kernel
theorem dX2_soundOf_26 : decode cX2_soundOf 26 = .ok (.iload 6, 2) := by decide +kernel
theorem dX2_soundOf_28 : decode cX2_soundOf 28 = .ok (.ifCond .eq 38, 3) := by decide +kernel
theorem dX2_soundOf_31 : decode cX2_soundOf 31 = .ok (.iload 6, 2) := by decide +kernel
theorem dX2_soundOf_33 : decode cX2_soundOf 33 = .ok (.iload 4, 2) := by decide +kernel
theorem dX2_soundOf_35 : decode cX2_soundOf 35 = .ok (.if_icmp .eq 31, 3) := by decide +kernel
theorem dX2_soundOf_38 : decode cX2_soundOf 38 = .ok (.iload 6, 2) := by decide +kernel
theorem dX2_soundOf_40 : decode cX2_soundOf 40 = .ok (.bipush 7, 2) := by decide +kernel
theorem dX2_soundOf_42 : decode cX2_soundOf 42 = .ok (.if_icmp .ne 12, 3) := by decide +kernel
theorem dX2_soundOf_45 : decode cX2_soundOf 45 = .ok (.iload 4, 2) := by decide +kernel
theorem dX2_soundOf_47 : decode cX2_soundOf 47 = .ok (.ifCond .eq 7, 3) := by decide +kernel
theorem dX2_soundOf_50 : decode cX2_soundOf 50 = .ok (.iload_n 3, 1) := by decide +kernel
theorem dX2_soundOf_51 : decode cX2_soundOf 51 = .ok (.goto 10, 3) := by decide +kernel
theorem dX2_soundOf_54 : decode cX2_soundOf 54 = .ok (.bipush 10, 2) := by decide +kernel
theorem dX2_soundOf_56 : decode cX2_soundOf 56 = .ok (.iload_n 3, 1) := by decide +kernel
theorem dX2_soundOf_57 : decode cX2_soundOf 57 = .ok (.imul, 1) := by decide +kernel
theorem dX2_soundOf_58 : decode cX2_soundOf 58 = .ok (.iload 6, 2) := by decide +kernel
theorem dX2_soundOf_60 : decode cX2_soundOf 60 = .ok (.iadd, 1) := by decide +kernel
theorem dX2_soundOf_61 : decode cX2_soundOf 61 = .ok (.istore_n 3, 1) := by decide +kernel
theorem dX2_soundOf_62 : decode cX2_soundOf 62 = .ok (.iload 6, 2) := by decide +kernel
theorem dX2_soundOf_64 : decode cX2_soundOf 64 = .ok (.istore 4, 2) := by decide +kernel
theorem dX2_soundOf_66 : decode cX2_soundOf 66 = .ok (.iinc 5 1, 3) := by decide +kernel
theorem dX2_soundOf_69 : decode cX2_soundOf 69 = .ok (.goto (-61), 3) := by decide +kernel
theorem dX2_soundOf_72 : decode cX2_soundOf 72 = .ok (.iload_n 3, 1) := by decide +kernel
theorem dX2_soundOf_73 : decode cX2_soundOf 73 = .ok (.ireturn, 1) := by decide +kernel
set_option maxRecDepth 20000 in
theorem ggX2_readsName_X2_isHere : GoodIn wsX2_readsName wsX2_isHere := goodIn_r _ [11, 1, 12, 6, 13, 14, 10, 15, 23, 24, 25, 26, 27, 28, 29, 30, 31, 32, 33, 34, 35] (by decide +kernel) (by decide +kernel)
set_option maxRecDepth 20000 in
theorem gX2_readsName_X2_isHere : GoodIn wsX2_readsName (wsV RX2 172 RX2 yX2_isHere wsX2_isHere) := goodIn_app (goodIn_of _ (by decide +kernel)) ggX2_readsName_X2_isHere
set_option maxRecDepth 20000 in
theorem ggX2_readsName_X2_soundOf : GoodIn wsX2_readsName wsX2_soundOf := goodIn_r _ [19, 6, 20, 21, 10, 22, 23, 24, 25, 26, 27, 28, 29, 30, 31, 32, 33, 34, 35] (by decide +kernel) (by decide +kernel)
set_option maxRecDepth 20000 in
theorem gX2_readsName_X2_soundOf : GoodIn wsX2_readsName (wsV RX2 178 RX2 yX2_soundOf wsX2_soundOf) := goodIn_app (goodIn_of _ (by decide +kernel)) ggX2_readsName_X2_soundOf
theorem dX2_readsName_0 : decode cX2_readsName 0 = .ok (.aload_n 0, 1) := by decide +kernel
theorem dX2_readsName_1 : decode cX2_readsName 1 = .ok (.getfield 166, 3) := by decide +kernel
theorem dX2_readsName_4 : decode cX2_readsName 4 = .ok (.istore_n 1, 1) := by decide +kernel
theorem dX2_readsName_5 : decode cX2_readsName 5 = .ok (.aload_n 0, 1) := by decide +kernel
theorem dX2_readsName_6 : decode cX2_readsName 6 = .ok (.getfield 166, 3) := by decide +kernel
theorem dX2_readsName_9 : decode cX2_readsName 9 = .ok (.iload_n 1, 1) := by decide +kernel
theorem dX2_readsName_10 : decode cX2_readsName 10 = .ok (.isub, 1) := by decide +kernel
theorem dX2_readsName_11 : decode cX2_readsName 11 = .ok (.bipush 9, 2) := by decide +kernel
theorem dX2_readsName_13 : decode cX2_readsName 13 = .ok (.if_icmp .ge 27, 3) := by decide +kernel
theorem dX2_readsName_16 : decode cX2_readsName 16 = .ok (.aload_n 0, 1) := by decide +kernel
theorem dX2_readsName_17 : decode cX2_readsName 17 = .ok (.bipush 97, 2) := by decide +kernel
theorem dX2_readsName_19 : decode cX2_readsName 19 = .ok (.bipush 122, 2) := by decide +kernel
theorem dX2_readsName_21 : decode cX2_readsName 21 = .ok (.invokevirtual 172, 3) := by decide +kernel
theorem dX2_readsName_24 : decode cX2_readsName 24 = .ok (.ifCond .eq 16, 3) := by decide +kernel
theorem dX2_readsName_27 : decode cX2_readsName 27 = .ok (.aload_n 0, 1) := by decide +kernel
theorem dX2_readsName_28 : decode cX2_readsName 28 = .ok (.dup, 1) := by decide +kernel
theorem dX2_readsName_29 : decode cX2_readsName 29 = .ok (.getfield 166, 3) := by decide +kernel
theorem dX2_readsName_32 : decode cX2_readsName 32 = .ok (.iconst 1, 1) := by decide +kernel
theorem dX2_readsName_33 : decode cX2_readsName 33 = .ok (.iadd, 1) := by decide +kernel
theorem dX2_readsName_34 : decode cX2_readsName 34 = .ok (.putfield 166, 3) := by decide +kernel
theorem dX2_readsName_37 : decode cX2_readsName 37 = .ok (.goto (-32), 3) := by decide +kernel
theorem dX2_readsName_40 : decode cX2_readsName 40 = .ok (.aload_n 0, 1) := by decide +kernel
theorem dX2_readsName_41 : decode cX2_readsName 41 = .ok (.getfield 166, 3) := by decide +kernel
theorem dX2_readsName_44 : decode cX2_readsName 44 = .ok (.iload_n 1, 1) := by decide +kernel
theorem dX2_readsName_45 : decode cX2_readsName 45 = .ok (.isub, 1) := by decide +kernel
theorem dX2_readsName_46 : decode cX2_readsName 46 = .ok (.iconst 2, 1) := by decide +kernel
theorem dX2_readsName_47 : decode cX2_readsName 47 = .ok (.if_icmp .lt 14, 3) := by decide +kernel
theorem dX2_readsName_50 : decode cX2_readsName 50 = .ok (.aload_n 0, 1) := by decide +kernel
theorem dX2_readsName_51 : decode cX2_readsName 51 = .ok (.bipush 48, 2) := by decide +kernel
theorem dX2_readsName_53 : decode cX2_readsName 53 = .ok (.bipush 57, 2) := by decide +kernel
theorem dX2_readsName_55 : decode cX2_readsName 55 = .ok (.invokevirtual 172, 3) := by decide +kernel
theorem dX2_readsName_58 : decode cX2_readsName 58 = .ok (.ifCond .ne 5, 3) := by decide +kernel
theorem dX2_readsName_61 : decode cX2_readsName 61 = .ok (.iconst 0, 1) := by decide +kernel
theorem dX2_readsName_62 : decode cX2_readsName 62 = .ok (.ireturn, 1) := by decide +kernel
theorem dX2_readsName_63 : decode cX2_readsName 63 = .ok (.aload_n 0, 1) := by decide +kernel
theorem dX2_readsName_64 : decode cX2_readsName 64 = .ok (.getfield 28, 3) := by decide +kernel
theorem dX2_readsName_67 : decode cX2_readsName 67 = .ok (.aload_n 0, 1) := by decide +kernel
theorem dX2_readsName_68 : decode cX2_readsName 68 = .ok (.getfield 175, 3) := by decide +kernel
theorem dX2_readsName_71 : decode cX2_readsName 71 = .ok (.aload_n 0, 1) := by decide +kernel
theorem dX2_readsName_72 : decode cX2_readsName 72 = .ok (.iload_n 1, 1) := by decide +kernel
theorem dX2_readsName_73 : decode cX2_readsName 73 = .ok (.aload_n 0, 1) := by decide +kernel
theorem dX2_readsName_74 : decode cX2_readsName 74 = .ok (.getfield 166, 3) := by decide +kernel
theorem dX2_readsName_77 : decode cX2_readsName 77 = .ok (.invokevirtual 178, 3) := by decide +kernel
theorem dX2_readsName_80 : decode cX2_readsName 80 = .ok (.iastore, 1) := by decide +kernel
theorem dX2_readsName_81 : decode cX2_readsName 81 = .ok (.aload_n 0, 1) := by decide +kernel
theorem dX2_readsName_82 : decode cX2_readsName 82 = .ok (.getfield 31, 3) := by decide +kernel
theorem dX2_readsName_85 : decode cX2_readsName 85 = .ok (.aload_n 0, 1) := by decide +kernel
theorem dX2_readsName_86 : decode cX2_readsName 86 = .ok (.getfield 175, 3) := by decide +kernel
theorem dX2_readsName_89 : decode cX2_readsName 89 = .ok (.aload_n 0, 1) := by decide +kernel
theorem dX2_readsName_90 : decode cX2_readsName 90 = .ok (.getfield 166, 3) := by decide +kernel
theorem dX2_readsName_93 : decode cX2_readsName 93 = .ok (.iload_n 1, 1) := by decide +kernel
theorem dX2_readsName_94 : decode cX2_readsName 94 = .ok (.isub, 1) := by decide +kernel
theorem dX2_readsName_95 : decode cX2_readsName 95 = .ok (.iastore, 1) := by decide +kernel
theorem dX2_readsName_96 : decode cX2_readsName 96 = .ok (.aload_n 0, 1) := by decide +kernel
theorem dX2_readsName_97 : decode cX2_readsName 97 = .ok (.getfield 34, 3) := by decide +kernel
theorem dX2_readsName_100 : decode cX2_readsName 100 = .ok (.aload_n 0, 1) := by decide +kernel
theorem dX2_readsName_101 : decode cX2_readsName 101 = .ok (.getfield 175, 3) := by decide +kernel
theorem dX2_readsName_104 : decode cX2_readsName 104 = .ok (.aload_n 0, 1) := by decide +kernel
theorem dX2_readsName_105 : decode cX2_readsName 105 = .ok (.getfield 25, 3) := by decide +kernel
theorem dX2_readsName_108 : decode cX2_readsName 108 = .ok (.aload_n 0, 1) := by decide +kernel
theorem dX2_readsName_109 : decode cX2_readsName 109 = .ok (.getfield 166, 3) := by decide +kernel
theorem dX2_readsName_112 : decode cX2_readsName 112 = .ok (.iaload, 1) := by decide +kernel
theorem dX2_readsName_113 : decode cX2_readsName 113 = .ok (.bipush 48, 2) := by decide +kernel
theorem dX2_readsName_115 : decode cX2_readsName 115 = .ok (.isub, 1) := by decide +kernel
theorem dX2_readsName_116 : decode cX2_readsName 116 = .ok (.iastore, 1) := by decide +kernel
theorem dX2_readsName_117 : decode cX2_readsName 117 = .ok (.aload_n 0, 1) := by decide +kernel
theorem dX2_readsName_118 : decode cX2_readsName 118 = .ok (.dup, 1) := by decide +kernel
theorem dX2_readsName_119 : decode cX2_readsName 119 = .ok (.getfield 175, 3) := by decide +kernel
theorem dX2_readsName_122 : decode cX2_readsName 122 = .ok (.iconst 1, 1) := by decide +kernel
theorem dX2_readsName_123 : decode cX2_readsName 123 = .ok (.iadd, 1) := by decide +kernel
theorem dX2_readsName_124 : decode cX2_readsName 124 = .ok (.putfield 175, 3) := by decide +kernel
theorem dX2_readsName_127 : decode cX2_readsName 127 = .ok (.aload_n 0, 1) := by decide +kernel
theorem dX2_readsName_128 : decode cX2_readsName 128 = .ok (.dup, 1) := by decide +kernel
theorem dX2_readsName_129 : decode cX2_readsName 129 = .ok (.getfield 166, 3) := by decide +kernel
theorem dX2_readsName_132 : decode cX2_readsName 132 = .ok (.iconst 1, 1) := by decide +kernel
theorem dX2_readsName_133 : decode cX2_readsName 133 = .ok (.iadd, 1) := by decide +kernel
theorem dX2_readsName_134 : decode cX2_readsName 134 = .ok (.putfield 166, 3) := by decide +kernel
theorem dX2_readsName_137 : decode cX2_readsName 137 = .ok (.iconst 1, 1) := by decide +kernel
theorem dX2_readsName_138 : decode cX2_readsName 138 = .ok (.ireturn, 1) := by decide +kernel
set_option maxRecDepth 20000 in
theorem ggX2_fault_X2_readsName : GoodIn wsX2_fault wsX2_readsName := goodIn_r _ [8, 1, 9, 2, 10, 11, 12, 13, 14, 15, 7, 16, 3, 17, 18, 19, 20, 21, 22, 23, 24, 25, 26, 27, 28, 29, 30, 31, 32, 33, 34, 35, 36, 37, 38, 39] (by decide +kernel) (by decide +kernel)
set_option maxRecDepth 20000 in
theorem gX2_fault_X2_readsName : GoodIn wsX2_fault (wsV RX2 181 RX2 yX2_readsName wsX2_readsName) := goodIn_app (goodIn_of _ (by decide +kernel)) ggX2_fault_X2_readsName
theorem dX2_fault_0 : decode cX2_fault 0 = .ok (.aload_n 0, 1) := by decide +kernel
theorem dX2_fault_1 : decode cX2_fault 1 = .ok (.iconst 0, 1) := by decide +kernel
theorem dX2_fault_2 : decode cX2_fault 2 = .ok (.putfield 166, 3) := by decide +kernel
theorem dX2_fault_5 : decode cX2_fault 5 = .ok (.aload_n 0, 1) := by decide +kernel
theorem dX2_fault_6 : decode cX2_fault 6 = .ok (.iconst 0, 1) := by decide +kernel
theorem dX2_fault_7 : decode cX2_fault 7 = .ok (.putfield 175, 3) := by decide +kernel
theorem dX2_fault_10 : decode cX2_fault 10 = .ok (.iconst 1, 1) := by decide +kernel
theorem dX2_fault_11 : decode cX2_fault 11 = .ok (.istore_n 1, 1) := by decide +kernel
theorem dX2_fault_12 : decode cX2_fault 12 = .ok (.iload_n 1, 1) := by decide +kernel
theorem dX2_fault_13 : decode cX2_fault 13 = .ok (.ifCond .eq 35, 3) := by decide +kernel
theorem dX2_fault_16 : decode cX2_fault 16 = .ok (.aload_n 0, 1) := by decide +kernel
theorem dX2_fault_17 : decode cX2_fault 17 = .ok (.invokevirtual 181, 3) := by decide +kernel
theorem dX2_fault_20 : decode cX2_fault 20 = .ok (.ifCond .ne 8, 3) := by decide +kernel
theorem dX2_fault_23 : decode cX2_fault 23 = .ok (.aload_n 0, 1) := by decide +kernel
theorem dX2_fault_24 : decode cX2_fault 24 = .ok (.getfield 166, 3) := by decide +kernel
theorem dX2_fault_27 : decode cX2_fault 27 = .ok (.ireturn, 1) := by decide +kernel
theorem dX2_fault_28 : decode cX2_fault 28 = .ok (.aload_n 0, 1) := by decide +kernel
theorem dX2_fault_29 : decode cX2_fault 29 = .ok (.getfield 166, 3) := by decide +kernel
theorem dX2_fault_32 : decode cX2_fault 32 = .ok (.aload_n 0, 1) := by decide +kernel
theorem dX2_fault_33 : decode cX2_fault 33 = .ok (.getfield 140, 3) := by decide +kernel
theorem dX2_fault_36 : decode cX2_fault 36 = .ok (.if_icmp .ge 7, 3) := by decide +kernel
theorem dX2_fault_39 : decode cX2_fault 39 = .ok (.iconst 1, 1) := by decide +kernel
theorem dX2_fault_40 : decode cX2_fault 40 = .ok (.goto 4, 3) := by decide +kernel
theorem dX2_fault_43 : decode cX2_fault 43 = .ok (.iconst 0, 1) := by decide +kernel
theorem dX2_fault_44 : decode cX2_fault 44 = .ok (.istore_n 1, 1) := by decide +kernel
theorem dX2_fault_45 : decode cX2_fault 45 = .ok (.goto (-33), 3) := by decide +kernel
theorem dX2_fault_48 : decode cX2_fault 48 = .ok (.bipush (-6), 2) := by decide +kernel
theorem dX2_fault_50 : decode cX2_fault 50 = .ok (.ireturn, 1) := by decide +kernel
set_option maxRecDepth 20000 in
theorem ggX2_read_X2_fault : GoodIn wsX2_read wsX2_fault := goodIn_r _ [11, 12, 2, 6, 13, 14, 15, 10, 16, 5, 4, 3, 17, 18, 19, 20, 21, 22, 23, 24, 25, 26, 27, 28, 29, 30, 31, 42, 43, 44, 45, 46, 47, 48, 49, 50, 51, 52, 53, 54] (by decide +kernel) (by decide +kernel)
set_option maxRecDepth 20000 in
theorem gX2_read_X2_fault : GoodIn wsX2_read (wsV RX2 185 RX2 yX2_fault wsX2_fault) := goodIn_app (goodIn_of _ (by decide +kernel)) ggX2_read_X2_fault
set_option maxRecDepth 20000 in
theorem ggX2_read_X2_changes : GoodIn wsX2_read wsX2_changes := goodIn_r _ [35, 36, 37, 1, 42, 43, 44, 45, 46, 47, 48, 49, 50, 51, 52, 53, 54] (by decide +kernel) (by decide +kernel)
set_option maxRecDepth 20000 in
theorem gX2_read_X2_changes : GoodIn wsX2_read (wsV RX2 101 RX2 yX2_changes wsX2_changes) := goodIn_app (goodIn_of _ (by decide +kernel)) ggX2_read_X2_changes
set_option maxRecDepth 20000 in
theorem ggX2_read_X2_lays : GoodIn wsX2_read wsX2_lays := goodIn_r _ [41, 1, 42, 43, 44, 45, 46, 47, 48, 49, 50, 51, 52, 53, 54] (by decide +kernel) (by decide +kernel)
set_option maxRecDepth 20000 in
theorem gX2_read_X2_lays : GoodIn wsX2_read (wsV RX2 65 RX2 yX2_lays wsX2_lays) := goodIn_app (goodIn_of _ (by decide +kernel)) ggX2_read_X2_lays
theorem dX2_read_0 : decode cX2_read 0 = .ok (.aload_n 0, 1) := by decide +kernel
theorem dX2_read_1 : decode cX2_read 1 = .ok (.invokevirtual 185, 3) := by decide +kernel
theorem dX2_read_4 : decode cX2_read 4 = .ok (.bipush (-6), 2) := by decide +kernel
theorem dX2_read_6 : decode cX2_read 6 = .ok (.if_icmp .eq 6, 3) := by decide +kernel
theorem dX2_read_9 : decode cX2_read 9 = .ok (.bipush (-3), 2) := by decide +kernel
theorem dX2_read_11 : decode cX2_read 11 = .ok (.ireturn, 1) := by decide +kernel
theorem dX2_read_12 : decode cX2_read 12 = .ok (.aload_n 0, 1) := by decide +kernel
theorem dX2_read_13 : decode cX2_read 13 = .ok (.getfield 7, 3) := by decide +kernel
theorem dX2_read_16 : decode cX2_read 16 = .ok (.iconst 5, 1) := by decide +kernel
theorem dX2_read_17 : decode cX2_read 17 = .ok (.iaload, 1) := by decide +kernel
theorem dX2_read_18 : decode cX2_read 18 = .ok (.aload_n 0, 1) := by decide +kernel
theorem dX2_read_19 : decode cX2_read 19 = .ok (.getfield 175, 3) := by decide +kernel
theorem dX2_read_22 : decode cX2_read 22 = .ok (.iadd, 1) := by decide +kernel
theorem dX2_read_23 : decode cX2_read 23 = .ok (.bipush 20, 2) := by decide +kernel
theorem dX2_read_25 : decode cX2_read 25 = .ok (.if_icmp .le 6, 3) := by decide +kernel
theorem dX2_read_28 : decode cX2_read 28 = .ok (.bipush (-4), 2) := by decide +kernel
theorem dX2_read_30 : decode cX2_read 30 = .ok (.ireturn, 1) := by decide +kernel
theorem dX2_read_31 : decode cX2_read 31 = .ok (.aload_n 0, 1) := by decide +kernel
theorem dX2_read_32 : decode cX2_read 32 = .ok (.invokevirtual 101, 3) := by decide +kernel
theorem dX2_read_35 : decode cX2_read 35 = .ok (.iconst 0, 1) := by decide +kernel
theorem dX2_read_36 : decode cX2_read 36 = .ok (.istore_n 1, 1) := by decide +kernel
theorem dX2_read_37 : decode cX2_read 37 = .ok (.iload_n 1, 1) := by decide +kernel
theorem dX2_read_38 : decode cX2_read 38 = .ok (.aload_n 0, 1) := by decide +kernel
theorem dX2_read_39 : decode cX2_read 39 = .ok (.getfield 175, 3) := by decide +kernel
theorem dX2_read_42 : decode cX2_read 42 = .ok (.if_icmp .ge 83, 3) := by decide +kernel
theorem dX2_read_45 : decode cX2_read 45 = .ok (.aload_n 0, 1) := by decide +kernel
theorem dX2_read_46 : decode cX2_read 46 = .ok (.getfield 7, 3) := by decide +kernel
theorem dX2_read_49 : decode cX2_read 49 = .ok (.iconst 5, 1) := by decide +kernel
theorem dX2_read_50 : decode cX2_read 50 = .ok (.iaload, 1) := by decide +kernel
theorem dX2_read_51 : decode cX2_read 51 = .ok (.istore_n 2, 1) := by decide +kernel
theorem dX2_read_52 : decode cX2_read 52 = .ok (.aload_n 0, 1) := by decide +kernel
theorem dX2_read_53 : decode cX2_read 53 = .ok (.getfield 7, 3) := by decide +kernel
theorem dX2_read_56 : decode cX2_read 56 = .ok (.iconst 5, 1) := by decide +kernel
theorem dX2_read_57 : decode cX2_read 57 = .ok (.dup2, 1) := by decide +kernel
theorem dX2_read_58 : decode cX2_read 58 = .ok (.iaload, 1) := by decide +kernel
theorem dX2_read_59 : decode cX2_read 59 = .ok (.iconst 1, 1) := by decide +kernel
theorem dX2_read_60 : decode cX2_read 60 = .ok (.iadd, 1) := by decide +kernel
theorem dX2_read_61 : decode cX2_read 61 = .ok (.iastore, 1) := by decide +kernel
theorem dX2_read_62 : decode cX2_read 62 = .ok (.iconst 0, 1) := by decide +kernel
theorem dX2_read_63 : decode cX2_read 63 = .ok (.istore_n 3, 1) := by decide +kernel
theorem dX2_read_64 : decode cX2_read 64 = .ok (.iload_n 3, 1) := by decide +kernel
theorem dX2_read_65 : decode cX2_read 65 = .ok (.bipush 12, 2) := by decide +kernel
theorem dX2_read_67 : decode cX2_read 67 = .ok (.if_icmp .ge 16, 3) := by decide +kernel
theorem dX2_read_70 : decode cX2_read 70 = .ok (.aload_n 0, 1) := by decide +kernel
theorem dX2_read_71 : decode cX2_read 71 = .ok (.iload_n 2, 1) := by decide +kernel
theorem dX2_read_72 : decode cX2_read 72 = .ok (.iload_n 3, 1) := by decide +kernel
theorem dX2_read_73 : decode cX2_read 73 = .ok (.iconst 0, 1) := by decide +kernel
theorem dX2_read_74 : decode cX2_read 74 = .ok (.invokevirtual 65, 3) := by decide +kernel
theorem dX2_read_77 : decode cX2_read 77 = .ok (.iinc 3 1, 3) := by decide +kernel
theorem dX2_read_80 : decode cX2_read 80 = .ok (.goto (-16), 3) := by decide +kernel
theorem dX2_read_83 : decode cX2_read 83 = .ok (.aload_n 0, 1) := by decide +kernel
theorem dX2_read_84 : decode cX2_read 84 = .ok (.iload_n 2, 1) := by decide +kernel
theorem dX2_read_85 : decode cX2_read 85 = .ok (.iconst 0, 1) := by decide +kernel
theorem dX2_read_86 : decode cX2_read 86 = .ok (.aload_n 0, 1) := by decide +kernel
theorem dX2_read_87 : decode cX2_read 87 = .ok (.getfield 34, 3) := by decide +kernel
theorem dX2_read_90 : decode cX2_read 90 = .ok (.iload_n 1, 1) := by decide +kernel
theorem dX2_read_91 : decode cX2_read 91 = .ok (.iaload, 1) := by decide +kernel
theorem dX2_read_92 : decode cX2_read 92 = .ok (.invokevirtual 65, 3) := by decide +kernel
theorem dX2_read_95 : decode cX2_read 95 = .ok (.aload_n 0, 1) := by decide +kernel
theorem dX2_read_96 : decode cX2_read 96 = .ok (.iload_n 2, 1) := by decide +kernel
theorem dX2_read_97 : decode cX2_read 97 = .ok (.iconst 3, 1) := by decide +kernel
theorem dX2_read_98 : decode cX2_read 98 = .ok (.aload_n 0, 1) := by decide +kernel
theorem dX2_read_99 : decode cX2_read 99 = .ok (.getfield 31, 3) := by decide +kernel
theorem dX2_read_102 : decode cX2_read 102 = .ok (.iload_n 1, 1) := by decide +kernel
theorem dX2_read_103 : decode cX2_read 103 = .ok (.iaload, 1) := by decide +kernel
theorem dX2_read_104 : decode cX2_read 104 = .ok (.invokevirtual 65, 3) := by decide +kernel
theorem dX2_read_107 : decode cX2_read 107 = .ok (.aload_n 0, 1) := by decide +kernel
theorem dX2_read_108 : decode cX2_read 108 = .ok (.iload_n 2, 1) := by decide +kernel
theorem dX2_read_109 : decode cX2_read 109 = .ok (.iconst 4, 1) := by decide +kernel
theorem dX2_read_110 : decode cX2_read 110 = .ok (.aload_n 0, 1) := by decide +kernel
theorem dX2_read_111 : decode cX2_read 111 = .ok (.getfield 28, 3) := by decide +kernel
theorem dX2_read_114 : decode cX2_read 114 = .ok (.iload_n 1, 1) := by decide +kernel
theorem dX2_read_115 : decode cX2_read 115 = .ok (.iaload, 1) := by decide +kernel
theorem dX2_read_116 : decode cX2_read 116 = .ok (.invokevirtual 65, 3) := by decide +kernel
theorem dX2_read_119 : decode cX2_read 119 = .ok (.iinc 1 1, 3) := by decide +kernel
theorem dX2_read_122 : decode cX2_read 122 = .ok (.goto (-85), 3) := by decide +kernel
theorem dX2_read_125 : decode cX2_read 125 = .ok (.aload_n 0, 1) := by decide +kernel
theorem dX2_read_126 : decode cX2_read 126 = .ok (.iconst 0, 1) := by decide +kernel
theorem dX2_read_127 : decode cX2_read 127 = .ok (.putfield 140, 3) := by decide +kernel
theorem dX2_read_130 : decode cX2_read 130 = .ok (.aload_n 0, 1) := by decide +kernel
theorem dX2_read_131 : decode cX2_read 131 = .ok (.getfield 7, 3) := by decide +kernel
theorem dX2_read_134 : decode cX2_read 134 = .ok (.iconst 5, 1) := by decide +kernel
theorem dX2_read_135 : decode cX2_read 135 = .ok (.iaload, 1) := by decide +kernel
theorem dX2_read_136 : decode cX2_read 136 = .ok (.ireturn, 1) := by decide +kernel
theorem dX2_undo_0 : decode cX2_undo 0 = .ok (.aload_n 0, 1) := by decide +kernel
theorem dX2_undo_1 : decode cX2_undo 1 = .ok (.getfield 37, 3) := by decide +kernel
theorem dX2_undo_4 : decode cX2_undo 4 = .ok (.ifCond .ne 6, 3) := by decide +kernel
theorem dX2_undo_7 : decode cX2_undo 7 = .ok (.bipush (-5), 2) := by decide +kernel
theorem dX2_undo_9 : decode cX2_undo 9 = .ok (.ireturn, 1) := by decide +kernel
theorem dX2_undo_10 : decode cX2_undo 10 = .ok (.aload_n 0, 1) := by decide +kernel
theorem dX2_undo_11 : decode cX2_undo 11 = .ok (.dup, 1) := by decide +kernel
theorem dX2_undo_12 : decode cX2_undo 12 = .ok (.getfield 37, 3) := by decide +kernel
theorem dX2_undo_15 : decode cX2_undo 15 = .ok (.iconst 1, 1) := by decide +kernel
theorem dX2_undo_16 : decode cX2_undo 16 = .ok (.isub, 1) := by decide +kernel
theorem dX2_undo_17 : decode cX2_undo 17 = .ok (.putfield 37, 3) := by decide +kernel
theorem dX2_undo_20 : decode cX2_undo 20 = .ok (.iconst 0, 1) := by decide +kernel
theorem dX2_undo_21 : decode cX2_undo 21 = .ok (.istore_n 1, 1) := by decide +kernel
theorem dX2_undo_22 : decode cX2_undo 22 = .ok (.iload_n 1, 1) := by decide +kernel
theorem dX2_undo_23 : decode cX2_undo 23 = .ok (.sipush 322, 3) := by decide +kernel
theorem dX2_undo_26 : decode cX2_undo 26 = .ok (.if_icmp .ge 30, 3) := by decide +kernel
theorem dX2_undo_29 : decode cX2_undo 29 = .ok (.aload_n 0, 1) := by decide +kernel
theorem dX2_undo_30 : decode cX2_undo 30 = .ok (.getfield 7, 3) := by decide +kernel
theorem dX2_undo_33 : decode cX2_undo 33 = .ok (.iload_n 1, 1) := by decide +kernel
theorem dX2_undo_34 : decode cX2_undo 34 = .ok (.aload_n 0, 1) := by decide +kernel
theorem dX2_undo_35 : decode cX2_undo 35 = .ok (.getfield 16, 3) := by decide +kernel
theorem dX2_undo_38 : decode cX2_undo 38 = .ok (.sipush 322, 3) := by decide +kernel
theorem dX2_undo_41 : decode cX2_undo 41 = .ok (.aload_n 0, 1) := by decide +kernel
theorem dX2_undo_42 : decode cX2_undo 42 = .ok (.getfield 37, 3) := by decide +kernel
theorem dX2_undo_45 : decode cX2_undo 45 = .ok (.imul, 1) := by decide +kernel
theorem dX2_undo_46 : decode cX2_undo 46 = .ok (.iload_n 1, 1) := by decide +kernel
theorem dX2_undo_47 : decode cX2_undo 47 = .ok (.iadd, 1) := by decide +kernel
theorem dX2_undo_48 : decode cX2_undo 48 = .ok (.iaload, 1) := by decide +kernel
theorem dX2_undo_49 : decode cX2_undo 49 = .ok (.iastore, 1) := by decide +kernel
theorem dX2_undo_50 : decode cX2_undo 50 = .ok (.iinc 1 1, 3) := by decide +kernel
theorem dX2_undo_53 : decode cX2_undo 53 = .ok (.goto (-31), 3) := by decide +kernel
theorem dX2_undo_56 : decode cX2_undo 56 = .ok (.aload_n 0, 1) := by decide +kernel
theorem dX2_undo_57 : decode cX2_undo 57 = .ok (.getfield 37, 3) := by decide +kernel
theorem dX2_undo_60 : decode cX2_undo 60 = .ok (.ireturn, 1) := by decide +kernel
theorem dX2_isSlot_0 : decode cX2_isSlot 0 = .ok (.iload_n 0, 1) := by decide +kernel
theorem dX2_isSlot_1 : decode cX2_isSlot 1 = .ok (.ifCond .eq 8, 3) := by decide +kernel
theorem dX2_isSlot_4 : decode cX2_isSlot 4 = .ok (.iload_n 0, 1) := by decide +kernel
theorem dX2_isSlot_5 : decode cX2_isSlot 5 = .ok (.iconst 1, 1) := by decide +kernel
theorem dX2_isSlot_6 : decode cX2_isSlot 6 = .ok (.if_icmp .ne 7, 3) := by decide +kernel
theorem dX2_isSlot_9 : decode cX2_isSlot 9 = .ok (.iconst 1, 1) := by decide +kernel
theorem dX2_isSlot_10 : decode cX2_isSlot 10 = .ok (.goto 4, 3) := by decide +kernel
theorem dX2_isSlot_13 : decode cX2_isSlot 13 = .ok (.iconst 0, 1) := by decide +kernel
theorem dX2_isSlot_14 : decode cX2_isSlot 14 = .ok (.ireturn, 1) := by decide +kernel
set_option maxRecDepth 20000 in
theorem ggX2_save_X2_isSlot : GoodIn wsX2_save wsX2_isSlot := goodIn_r _ [7] (by decide +kernel) (by decide +kernel)
set_option maxRecDepth 20000 in
theorem gX2_save_X2_isSlot : GoodIn wsX2_save (va_wsS RX2 188 yX2_isSlot wsX2_isSlot) := goodIn_app (goodIn_of _ (by decide +kernel)) ggX2_save_X2_isSlot
theorem dX2_save_0 : decode cX2_save 0 = .ok (.iload_n 1, 1) := by decide +kernel
theorem dX2_save_1 : decode cX2_save 1 = .ok (.invokestatic 188, 3) := by decide +kernel
theorem dX2_save_4 : decode cX2_save 4 = .ok (.ifCond .ne 6, 3) := by decide +kernel
theorem dX2_save_7 : decode cX2_save 7 = .ok (.bipush (-2), 2) := by decide +kernel
theorem dX2_save_9 : decode cX2_save 9 = .ok (.ireturn, 1) := by decide +kernel
theorem dX2_save_10 : decode cX2_save 10 = .ok (.iconst 0, 1) := by decide +kernel
theorem dX2_save_11 : decode cX2_save 11 = .ok (.istore_n 2, 1) := by decide +kernel
theorem dX2_save_12 : decode cX2_save 12 = .ok (.iload_n 2, 1) := by decide +kernel
theorem dX2_save_13 : decode cX2_save 13 = .ok (.sipush 322, 3) := by decide +kernel
theorem dX2_save_16 : decode cX2_save 16 = .ok (.if_icmp .ge 27, 3) := by decide +kernel
theorem dX2_save_19 : decode cX2_save 19 = .ok (.aload_n 0, 1) := by decide +kernel
theorem dX2_save_20 : decode cX2_save 20 = .ok (.getfield 19, 3) := by decide +kernel
theorem dX2_save_23 : decode cX2_save 23 = .ok (.sipush 322, 3) := by decide +kernel
theorem dX2_save_26 : decode cX2_save 26 = .ok (.iload_n 1, 1) := by decide +kernel
theorem dX2_save_27 : decode cX2_save 27 = .ok (.imul, 1) := by decide +kernel
theorem dX2_save_28 : decode cX2_save 28 = .ok (.iload_n 2, 1) := by decide +kernel
theorem dX2_save_29 : decode cX2_save 29 = .ok (.iadd, 1) := by decide +kernel
theorem dX2_save_30 : decode cX2_save 30 = .ok (.aload_n 0, 1) := by decide +kernel
theorem dX2_save_31 : decode cX2_save 31 = .ok (.getfield 7, 3) := by decide +kernel
theorem dX2_save_34 : decode cX2_save 34 = .ok (.iload_n 2, 1) := by decide +kernel
theorem dX2_save_35 : decode cX2_save 35 = .ok (.iaload, 1) := by decide +kernel
theorem dX2_save_36 : decode cX2_save 36 = .ok (.iastore, 1) := by decide +kernel
theorem dX2_save_37 : decode cX2_save 37 = .ok (.iinc 2 1, 3) := by decide +kernel
theorem dX2_save_40 : decode cX2_save 40 = .ok (.goto (-28), 3) := by decide +kernel
theorem dX2_save_43 : decode cX2_save 43 = .ok (.aload_n 0, 1) := by decide +kernel
theorem dX2_save_44 : decode cX2_save 44 = .ok (.getfield 22, 3) := by decide +kernel
theorem dX2_save_47 : decode cX2_save 47 = .ok (.iload_n 1, 1) := by decide +kernel
theorem dX2_save_48 : decode cX2_save 48 = .ok (.iconst 1, 1) := by decide +kernel
theorem dX2_save_49 : decode cX2_save 49 = .ok (.iastore, 1) := by decide +kernel
theorem dX2_save_50 : decode cX2_save 50 = .ok (.aload_n 0, 1) := by decide +kernel
theorem dX2_save_51 : decode cX2_save 51 = .ok (.getfield 7, 3) := by decide +kernel
theorem dX2_save_54 : decode cX2_save 54 = .ok (.iconst 4, 1) := by decide +kernel
theorem dX2_save_55 : decode cX2_save 55 = .ok (.iaload, 1) := by decide +kernel
theorem dX2_save_56 : decode cX2_save 56 = .ok (.ireturn, 1) := by decide +kernel
set_option maxRecDepth 20000 in
theorem ggX2_restore_X2_isSlot : GoodIn wsX2_restore wsX2_isSlot := goodIn_r _ [7] (by decide +kernel) (by decide +kernel)
set_option maxRecDepth 20000 in
theorem gX2_restore_X2_isSlot : GoodIn wsX2_restore (va_wsS RX2 188 yX2_isSlot wsX2_isSlot) := goodIn_app (goodIn_of _ (by decide +kernel)) ggX2_restore_X2_isSlot
set_option maxRecDepth 20000 in
theorem ggX2_restore_X2_changes : GoodIn wsX2_restore wsX2_changes := goodIn_r _ [11, 12, 13, 2, 14, 15, 16, 17, 18, 19, 20, 21, 22, 23, 24, 25, 26] (by decide +kernel) (by decide +kernel)
set_option maxRecDepth 20000 in
theorem gX2_restore_X2_changes : GoodIn wsX2_restore (wsV RX2 101 RX2 yX2_changes wsX2_changes) := goodIn_app (goodIn_of _ (by decide +kernel)) ggX2_restore_X2_changes
theorem dX2_restore_0 : decode cX2_restore 0 = .ok (.iload_n 1, 1) := by decide +kernel
theorem dX2_restore_1 : decode cX2_restore 1 = .ok (.invokestatic 188, 3) := by decide +kernel
theorem dX2_restore_4 : decode cX2_restore 4 = .ok (.ifCond .ne 6, 3) := by decide +kernel
theorem dX2_restore_7 : decode cX2_restore 7 = .ok (.bipush (-2), 2) := by decide +kernel
theorem dX2_restore_9 : decode cX2_restore 9 = .ok (.ireturn, 1) := by decide +kernel
theorem dX2_restore_10 : decode cX2_restore 10 = .ok (.aload_n 0, 1) := by decide +kernel
theorem dX2_restore_11 : decode cX2_restore 11 = .ok (.getfield 22, 3) := by decide +kernel
theorem dX2_restore_14 : decode cX2_restore 14 = .ok (.iload_n 1, 1) := by decide +kernel
theorem dX2_restore_15 : decode cX2_restore 15 = .ok (.iaload, 1) := by decide +kernel
theorem dX2_restore_16 : decode cX2_restore 16 = .ok (.ifCond .ne 6, 3) := by decide +kernel
theorem dX2_restore_19 : decode cX2_restore 19 = .ok (.bipush (-5), 2) := by decide +kernel
theorem dX2_restore_21 : decode cX2_restore 21 = .ok (.ireturn, 1) := by decide +kernel
theorem dX2_restore_22 : decode cX2_restore 22 = .ok (.aload_n 0, 1) := by decide +kernel
theorem dX2_restore_23 : decode cX2_restore 23 = .ok (.invokevirtual 101, 3) := by decide +kernel
theorem dX2_restore_26 : decode cX2_restore 26 = .ok (.iconst 0, 1) := by decide +kernel
theorem dX2_restore_27 : decode cX2_restore 27 = .ok (.istore_n 2, 1) := by decide +kernel
theorem dX2_restore_28 : decode cX2_restore 28 = .ok (.iload_n 2, 1) := by decide +kernel
theorem dX2_restore_29 : decode cX2_restore 29 = .ok (.sipush 322, 3) := by decide +kernel
theorem dX2_restore_32 : decode cX2_restore 32 = .ok (.if_icmp .ge 27, 3) := by decide +kernel
theorem dX2_restore_35 : decode cX2_restore 35 = .ok (.aload_n 0, 1) := by decide +kernel
theorem dX2_restore_36 : decode cX2_restore 36 = .ok (.getfield 7, 3) := by decide +kernel
theorem dX2_restore_39 : decode cX2_restore 39 = .ok (.iload_n 2, 1) := by decide +kernel
theorem dX2_restore_40 : decode cX2_restore 40 = .ok (.aload_n 0, 1) := by decide +kernel
theorem dX2_restore_41 : decode cX2_restore 41 = .ok (.getfield 19, 3) := by decide +kernel
theorem dX2_restore_44 : decode cX2_restore 44 = .ok (.sipush 322, 3) := by decide +kernel
theorem dX2_restore_47 : decode cX2_restore 47 = .ok (.iload_n 1, 1) := by decide +kernel
theorem dX2_restore_48 : decode cX2_restore 48 = .ok (.imul, 1) := by decide +kernel
theorem dX2_restore_49 : decode cX2_restore 49 = .ok (.iload_n 2, 1) := by decide +kernel
theorem dX2_restore_50 : decode cX2_restore 50 = .ok (.iadd, 1) := by decide +kernel
theorem dX2_restore_51 : decode cX2_restore 51 = .ok (.iaload, 1) := by decide +kernel
theorem dX2_restore_52 : decode cX2_restore 52 = .ok (.iastore, 1) := by decide +kernel
theorem dX2_restore_53 : decode cX2_restore 53 = .ok (.iinc 2 1, 3) := by decide +kernel
theorem dX2_restore_56 : decode cX2_restore 56 = .ok (.goto (-28), 3) := by decide +kernel
theorem dX2_restore_59 : decode cX2_restore 59 = .ok (.aload_n 0, 1) := by decide +kernel
theorem dX2_restore_60 : decode cX2_restore 60 = .ok (.getfield 7, 3) := by decide +kernel
theorem dX2_restore_63 : decode cX2_restore 63 = .ok (.iconst 4, 1) := by decide +kernel
theorem dX2_restore_64 : decode cX2_restore 64 = .ok (.iaload, 1) := by decide +kernel
theorem dX2_restore_65 : decode cX2_restore 65 = .ok (.ireturn, 1) := by decide +kernel
theorem dJ9_max_7cf53_0 : decode cJ9_max_7cf53 0 = .ok (.iload_n 0, 1) := by decide +kernel
theorem dJ9_max_7cf53_1 : decode cJ9_max_7cf53 1 = .ok (.iload_n 1, 1) := by decide +kernel
theorem dJ9_max_7cf53_2 : decode cJ9_max_7cf53 2 = .ok (.if_icmp .lt 7, 3) := by decide +kernel
theorem dJ9_max_7cf53_5 : decode cJ9_max_7cf53 5 = .ok (.iload_n 0, 1) := by decide +kernel
theorem dJ9_max_7cf53_6 : decode cJ9_max_7cf53 6 = .ok (.goto 4, 3) := by decide +kernel
theorem dJ9_max_7cf53_9 : decode cJ9_max_7cf53 9 = .ok (.iload_n 1, 1) := by decide +kernel
theorem dJ9_max_7cf53_10 : decode cJ9_max_7cf53 10 = .ok (.ireturn, 1) := by decide +kernel
theorem dJ9_min_7cf53_0 : decode cJ9_min_7cf53 0 = .ok (.iload_n 0, 1) := by decide +kernel
theorem dJ9_min_7cf53_1 : decode cJ9_min_7cf53 1 = .ok (.iload_n 1, 1) := by decide +kernel
theorem dJ9_min_7cf53_2 : decode cJ9_min_7cf53 2 = .ok (.if_icmp .gt 7, 3) := by decide +kernel
theorem dJ9_min_7cf53_5 : decode cJ9_min_7cf53 5 = .ok (.iload_n 0, 1) := by decide +kernel
theorem dJ9_min_7cf53_6 : decode cJ9_min_7cf53 6 = .ok (.goto 4, 3) := by decide +kernel
theorem dJ9_min_7cf53_9 : decode cJ9_min_7cf53 9 = .ok (.iload_n 1, 1) := by decide +kernel
theorem dJ9_min_7cf53_10 : decode cJ9_min_7cf53 10 = .ok (.ireturn, 1) := by decide +kernel
