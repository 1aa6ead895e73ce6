theorem dX0_init_0 : decode cX0_init 0 = .ok (.aload_n 0, 1) := by decide +kernel
theorem dX0_init_1 : decode cX0_init 1 = .ok (.invokespecial 3, 3) := by decide +kernel
theorem dX0_init_4 : decode cX0_init 4 = .ok (.aload_n 0, 1) := by decide +kernel
theorem dX0_init_5 : decode cX0_init 5 = .ok (.iconst 4, 1) := by decide +kernel
theorem dX0_init_6 : decode cX0_init 6 = .ok (.newarray .int, 2) := by decide +kernel
theorem dX0_init_8 : decode cX0_init 8 = .ok (.dup, 1) := by decide +kernel
theorem dX0_init_9 : decode cX0_init 9 = .ok (.iconst 0, 1) := by decide +kernel
theorem dX0_init_10 : decode cX0_init 10 = .ok (.iconst 3, 1) := by decide +kernel
theorem dX0_init_11 : decode cX0_init 11 = .ok (.iastore, 1) := by decide +kernel
theorem dX0_init_12 : decode cX0_init 12 = .ok (.dup, 1) := by decide +kernel
theorem dX0_init_13 : decode cX0_init 13 = .ok (.iconst 1, 1) := by decide +kernel
theorem dX0_init_14 : decode cX0_init 14 = .ok (.iconst 2, 1) := by decide +kernel
theorem dX0_init_15 : decode cX0_init 15 = .ok (.iastore, 1) := by decide +kernel
theorem dX0_init_16 : decode cX0_init 16 = .ok (.dup, 1) := by decide +kernel
theorem dX0_init_17 : decode cX0_init 17 = .ok (.iconst 2, 1) := by decide +kernel
theorem dX0_init_18 : decode cX0_init 18 = .ok (.iconst 2, 1) := by decide +kernel
theorem dX0_init_19 : decode cX0_init 19 = .ok (.iastore, 1) := by decide +kernel
theorem dX0_init_20 : decode cX0_init 20 = .ok (.dup, 1) := by decide +kernel
theorem dX0_init_21 : decode cX0_init 21 = .ok (.iconst 3, 1) := by decide +kernel
theorem dX0_init_22 : decode cX0_init 22 = .ok (.bipush 10, 2) := by decide +kernel
theorem dX0_init_24 : decode cX0_init 24 = .ok (.iastore, 1) := by decide +kernel
theorem dX0_init_25 : decode cX0_init 25 = .ok (.putfield 9, 3) := by decide +kernel
theorem dX0_init_28 : decode cX0_init 28 = .ok (.aload_n 0, 1) := by decide +kernel
theorem dX0_init_29 : decode cX0_init 29 = .ok (.sipush 180, 3) := by decide +kernel
theorem dX0_init_32 : decode cX0_init 32 = .ok (.newarray .char, 2) := by decide +kernel
theorem dX0_init_34 : decode cX0_init 34 = .ok (.putfield 15, 3) := by decide +kernel
theorem dX0_init_37 : decode cX0_init 37 = .ok (.aload_n 0, 1) := by decide +kernel
theorem dX0_init_38 : decode cX0_init 38 = .ok (.bipush 20, 2) := by decide +kernel
theorem dX0_init_40 : decode cX0_init 40 = .ok (.newarray .int, 2) := by decide +kernel
theorem dX0_init_42 : decode cX0_init 42 = .ok (.putfield 19, 3) := by decide +kernel
theorem dX0_init_45 : decode cX0_init 45 = .ok (.aload_n 0, 1) := by decide +kernel
theorem dX0_init_46 : decode cX0_init 46 = .ok (.bipush 20, 2) := by decide +kernel
theorem dX0_init_48 : decode cX0_init 48 = .ok (.newarray .int, 2) := by decide +kernel
theorem dX0_init_50 : decode cX0_init 50 = .ok (.putfield 22, 3) := by decide +kernel
theorem dX0_init_53 : decode cX0_init 53 = .ok (.aload_n 0, 1) := by decide +kernel
theorem dX0_init_54 : decode cX0_init 54 = .ok (.bipush 20, 2) := by decide +kernel
theorem dX0_init_56 : decode cX0_init 56 = .ok (.newarray .int, 2) := by decide +kernel
theorem dX0_init_58 : decode cX0_init 58 = .ok (.putfield 25, 3) := by decide +kernel
theorem dX0_init_61 : decode cX0_init 61 = .ok (.aload_n 0, 1) := by decide +kernel
theorem dX0_init_62 : decode cX0_init 62 = .ok (.bipush 20, 2) := by decide +kernel
theorem dX0_init_64 : decode cX0_init 64 = .ok (.newarray .boolean, 2) := by decide +kernel
theorem dX0_init_66 : decode cX0_init 66 = .ok (.putfield 28, 3) := by decide +kernel
theorem dX0_init_69 : decode cX0_init 69 = .ok (.aload_n 0, 1) := by decide +kernel
theorem dX0_init_70 : decode cX0_init 70 = .ok (.bipush 20, 2) := by decide +kernel
theorem dX0_init_72 : decode cX0_init 72 = .ok (.newarray .int, 2) := by decide +kernel
theorem dX0_init_74 : decode cX0_init 74 = .ok (.putfield 32, 3) := by decide +kernel
theorem dX0_init_77 : decode cX0_init 77 = .ok (.aload_n 0, 1) := by decide +kernel
theorem dX0_init_78 : decode cX0_init 78 = .ok (.bipush 12, 2) := by decide +kernel
theorem dX0_init_80 : decode cX0_init 80 = .ok (.newarray .int, 2) := by decide +kernel
theorem dX0_init_82 : decode cX0_init 82 = .ok (.putfield 35, 3) := by decide +kernel
theorem dX0_init_85 : decode cX0_init 85 = .ok (.aload_n 0, 1) := by decide +kernel
theorem dX0_init_86 : decode cX0_init 86 = .ok (.bipush 12, 2) := by decide +kernel
theorem dX0_init_88 : decode cX0_init 88 = .ok (.newarray .int, 2) := by decide +kernel
theorem dX0_init_90 : decode cX0_init 90 = .ok (.putfield 38, 3) := by decide +kernel
theorem dX0_init_93 : decode cX0_init 93 = .ok (.aload_n 0, 1) := by decide +kernel
theorem dX0_init_94 : decode cX0_init 94 = .ok (.bipush 12, 2) := by decide +kernel
theorem dX0_init_96 : decode cX0_init 96 = .ok (.newarray .int, 2) := by decide +kernel
theorem dX0_init_98 : decode cX0_init 98 = .ok (.putfield 41, 3) := by decide +kernel
theorem dX0_init_101 : decode cX0_init 101 = .ok (.aload_n 0, 1) := by decide +kernel
theorem dX0_init_102 : decode cX0_init 102 = .ok (.bipush 12, 2) := by decide +kernel
theorem dX0_init_104 : decode cX0_init 104 = .ok (.newarray .int, 2) := by decide +kernel
theorem dX0_init_106 : decode cX0_init 106 = .ok (.putfield 44, 3) := by decide +kernel
theorem dX0_init_109 : decode cX0_init 109 = .ok (.aload_n 0, 1) := by decide +kernel
theorem dX0_init_110 : decode cX0_init 110 = .ok (.bipush 12, 2) := by decide +kernel
theorem dX0_init_112 : decode cX0_init 112 = .ok (.newarray .int, 2) := by decide +kernel
theorem dX0_init_114 : decode cX0_init 114 = .ok (.putfield 47, 3) := by decide +kernel
theorem dX0_init_117 : decode cX0_init 117 = .ok (.aload_n 0, 1) := by decide +kernel
theorem dX0_init_118 : decode cX0_init 118 = .ok (.bipush 12, 2) := by decide +kernel
theorem dX0_init_120 : decode cX0_init 120 = .ok (.newarray .int, 2) := by decide +kernel
theorem dX0_init_122 : decode cX0_init 122 = .ok (.putfield 50, 3) := by decide +kernel
theorem dX0_init_125 : decode cX0_init 125 = .ok (.iconst 0, 1) := by decide +kernel
theorem dX0_init_126 : decode cX0_init 126 = .ok (.istore_n 1, 1) := by decide +kernel
theorem dX0_init_127 : decode cX0_init 127 = .ok (.iload_n 1, 1) := by decide +kernel
theorem dX0_init_128 : decode cX0_init 128 = .ok (.bipush 12, 2) := by decide +kernel
theorem dX0_init_130 : decode cX0_init 130 = .ok (.if_icmp .ge 25, 3) := by decide +kernel
theorem dX0_init_133 : decode cX0_init 133 = .ok (.aload_n 0, 1) := by decide +kernel
theorem dX0_init_134 : decode cX0_init 134 = .ok (.getfield 35, 3) := by decide +kernel
theorem dX0_init_137 : decode cX0_init 137 = .ok (.iload_n 1, 1) := by decide +kernel
theorem dX0_init_138 : decode cX0_init 138 = .ok (.bipush (-6), 2) := by decide +kernel
theorem dX0_init_140 : decode cX0_init 140 = .ok (.iastore, 1) := by decide +kernel
theorem dX0_init_141 : decode cX0_init 141 = .ok (.aload_n 0, 1) := by decide +kernel
theorem dX0_init_142 : decode cX0_init 142 = .ok (.getfield 50, 3) := by decide +kernel
theorem dX0_init_145 : decode cX0_init 145 = .ok (.iload_n 1, 1) := by decide +kernel
theorem dX0_init_146 : decode cX0_init 146 = .ok (.bipush (-6), 2) := by decide +kernel
theorem dX0_init_148 : decode cX0_init 148 = .ok (.iastore, 1) := by decide +kernel
theorem dX0_init_149 : decode cX0_init 149 = .ok (.iinc 1 1, 3) := by decide +kernel
theorem dX0_init_152 : decode cX0_init 152 = .ok (.goto (-25), 3) := by decide +kernel
theorem dX0_init_155 : decode cX0_init 155 = .ok (.return_, 1) := by decide +kernel
theorem dX0_hasName_0 : decode cX0_hasName 0 = .ok (.iload_n 1, 1) := by decide +kernel
theorem dX0_hasName_1 : decode cX0_hasName 1 = .ok (.ifCond .lt 21, 3) := by decide +kernel
theorem dX0_hasName_4 : decode cX0_hasName 4 = .ok (.iload_n 1, 1) := by decide +kernel
theorem dX0_hasName_5 : decode cX0_hasName 5 = .ok (.aload_n 0, 1) := by decide +kernel
theorem dX0_hasName_6 : decode cX0_hasName 6 = .ok (.getfield 53, 3) := by decide +kernel
theorem dX0_hasName_9 : decode cX0_hasName 9 = .ok (.if_icmp .ge 13, 3) := by decide +kernel
theorem dX0_hasName_12 : decode cX0_hasName 12 = .ok (.iload_n 1, 1) := by decide +kernel
theorem dX0_hasName_13 : decode cX0_hasName 13 = .ok (.bipush 20, 2) := by decide +kernel
theorem dX0_hasName_15 : decode cX0_hasName 15 = .ok (.if_icmp .ge 7, 3) := by decide +kernel
theorem dX0_hasName_18 : decode cX0_hasName 18 = .ok (.iconst 1, 1) := by decide +kernel
theorem dX0_hasName_19 : decode cX0_hasName 19 = .ok (.goto 4, 3) := by decide +kernel
theorem dX0_hasName_22 : decode cX0_hasName 22 = .ok (.iconst 0, 1) := by decide +kernel
theorem dX0_hasName_23 : decode cX0_hasName 23 = .ok (.ireturn, 1) := by decide +kernel
set_option maxRecDepth 20000 in
theorem ggX0_apply_X0_soundOf : GoodIn wsX0_apply wsX0_soundOf := goodIn_r _ [16, 7, 17, 18, 19, 15, 20, 2, 21, 22, 23, 24, 25, 26, 27, 28, 29, 30, 31, 32, 33, 34, 35, 36] (by decide +kernel) (by decide +kernel)
set_option maxRecDepth 20000 in
theorem gX0_apply_X0_soundOf : GoodIn wsX0_apply (wsV RX0 63 RX0 yX0_soundOf wsX0_soundOf) := goodIn_app (goodIn_of _ (by decide +kernel)) ggX0_apply_X0_soundOf
theorem dX0_apply_0 : decode cX0_apply 0 = .ok (.aload_n 0, 1) := by decide +kernel
theorem dX0_apply_1 : decode cX0_apply 1 = .ok (.getfield 53, 3) := by decide +kernel
theorem dX0_apply_4 : decode cX0_apply 4 = .ok (.ifCond .lt 22, 3) := by decide +kernel
theorem dX0_apply_7 : decode cX0_apply 7 = .ok (.aload_n 0, 1) := by decide +kernel
theorem dX0_apply_8 : decode cX0_apply 8 = .ok (.getfield 53, 3) := by decide +kernel
theorem dX0_apply_11 : decode cX0_apply 11 = .ok (.bipush 20, 2) := by decide +kernel
theorem dX0_apply_13 : decode cX0_apply 13 = .ok (.if_icmp .ge 13, 3) := by decide +kernel
theorem dX0_apply_16 : decode cX0_apply 16 = .ok (.iload_n 3, 1) := by decide +kernel
theorem dX0_apply_17 : decode cX0_apply 17 = .ok (.ifCond .lt 9, 3) := by decide +kernel
theorem dX0_apply_20 : decode cX0_apply 20 = .ok (.iload_n 3, 1) := by decide +kernel
theorem dX0_apply_21 : decode cX0_apply 21 = .ok (.bipush 9, 2) := by decide +kernel
theorem dX0_apply_23 : decode cX0_apply 23 = .ok (.if_icmp .le 4, 3) := by decide +kernel
theorem dX0_apply_26 : decode cX0_apply 26 = .ok (.return_, 1) := by decide +kernel
theorem dX0_apply_27 : decode cX0_apply 27 = .ok (.iload_n 2, 1) := by decide +kernel
theorem dX0_apply_28 : decode cX0_apply 28 = .ok (.ifCond .lt 11, 3) := by decide +kernel
theorem dX0_apply_31 : decode cX0_apply 31 = .ok (.iload_n 2, 1) := by decide +kernel
theorem dX0_apply_32 : decode cX0_apply 32 = .ok (.iload_n 3, 1) := by decide +kernel
theorem dX0_apply_33 : decode cX0_apply 33 = .ok (.iadd, 1) := by decide +kernel
theorem dX0_apply_34 : decode cX0_apply 34 = .ok (.aload_n 1, 1) := by decide +kernel
theorem dX0_apply_35 : decode cX0_apply 35 = .ok (.arraylength, 1) := by decide +kernel
theorem dX0_apply_36 : decode cX0_apply 36 = .ok (.if_icmp .le 4, 3) := by decide +kernel
theorem dX0_apply_39 : decode cX0_apply 39 = .ok (.return_, 1) := by decide +kernel
theorem dX0_apply_40 : decode cX0_apply 40 = .ok (.aload_n 0, 1) := by decide +kernel
theorem dX0_apply_41 : decode cX0_apply 41 = .ok (.getfield 53, 3) := by decide +kernel
theorem dX0_apply_44 : decode cX0_apply 44 = .ok (.istore 5, 2) := by decide +kernel
theorem dX0_apply_46 : decode cX0_apply 46 = .ok (.aload_n 1, 1) := by decide +kernel
theorem dX0_apply_47 : decode cX0_apply 47 = .ok (.iload_n 2, 1) := by decide +kernel
theorem dX0_apply_48 : decode cX0_apply 48 = .ok (.aload_n 0, 1) := by decide +kernel
theorem dX0_apply_49 : decode cX0_apply 49 = .ok (.getfield 15, 3) := by decide +kernel
theorem dX0_apply_52 : decode cX0_apply 52 = .ok (.iload 5, 2) := by decide +kernel
theorem dX0_apply_54 : decode cX0_apply 54 = .ok (.bipush 9, 2) := by decide +kernel
theorem dX0_apply_56 : decode cX0_apply 56 = .ok (.imul, 1) := by decide +kernel
theorem dX0_apply_57 : decode cX0_apply 57 = .ok (.iload_n 3, 1) := by decide +kernel
theorem dX0_apply_58 : decode cX0_apply 58 = .ok (.invokestatic 57, 3) := by decide +kernel
theorem dX0_apply_61 : decode cX0_apply 61 = .ok (.aload_n 0, 1) := by decide +kernel
theorem dX0_apply_62 : decode cX0_apply 62 = .ok (.getfield 19, 3) := by decide +kernel
theorem dX0_apply_65 : decode cX0_apply 65 = .ok (.iload 5, 2) := by decide +kernel
theorem dX0_apply_67 : decode cX0_apply 67 = .ok (.iload_n 3, 1) := by decide +kernel
theorem dX0_apply_68 : decode cX0_apply 68 = .ok (.iastore, 1) := by decide +kernel
theorem dX0_apply_69 : decode cX0_apply 69 = .ok (.aload_n 0, 1) := by decide +kernel
theorem dX0_apply_70 : decode cX0_apply 70 = .ok (.getfield 25, 3) := by decide +kernel
theorem dX0_apply_73 : decode cX0_apply 73 = .ok (.iload 5, 2) := by decide +kernel
theorem dX0_apply_75 : decode cX0_apply 75 = .ok (.iload 4, 2) := by decide +kernel
theorem dX0_apply_77 : decode cX0_apply 77 = .ok (.iastore, 1) := by decide +kernel
theorem dX0_apply_78 : decode cX0_apply 78 = .ok (.aload_n 0, 1) := by decide +kernel
theorem dX0_apply_79 : decode cX0_apply 79 = .ok (.getfield 28, 3) := by decide +kernel
theorem dX0_apply_82 : decode cX0_apply 82 = .ok (.iload 5, 2) := by decide +kernel
theorem dX0_apply_84 : decode cX0_apply 84 = .ok (.iconst 0, 1) := by decide +kernel
theorem dX0_apply_85 : decode cX0_apply 85 = .ok (.bastore, 1) := by decide +kernel
theorem dX0_apply_86 : decode cX0_apply 86 = .ok (.aload_n 0, 1) := by decide +kernel
theorem dX0_apply_87 : decode cX0_apply 87 = .ok (.getfield 32, 3) := by decide +kernel
theorem dX0_apply_90 : decode cX0_apply 90 = .ok (.iload 5, 2) := by decide +kernel
theorem dX0_apply_92 : decode cX0_apply 92 = .ok (.iconst 0, 1) := by decide +kernel
theorem dX0_apply_93 : decode cX0_apply 93 = .ok (.iastore, 1) := by decide +kernel
theorem dX0_apply_94 : decode cX0_apply 94 = .ok (.aload_n 0, 1) := by decide +kernel
theorem dX0_apply_95 : decode cX0_apply 95 = .ok (.getfield 22, 3) := by decide +kernel
theorem dX0_apply_98 : decode cX0_apply 98 = .ok (.iload 5, 2) := by decide +kernel
theorem dX0_apply_100 : decode cX0_apply 100 = .ok (.aload_n 0, 1) := by decide +kernel
theorem dX0_apply_101 : decode cX0_apply 101 = .ok (.iload 5, 2) := by decide +kernel
theorem dX0_apply_103 : decode cX0_apply 103 = .ok (.invokevirtual 63, 3) := by decide +kernel
theorem dX0_apply_106 : decode cX0_apply 106 = .ok (.iastore, 1) := by decide +kernel
theorem dX0_apply_107 : decode cX0_apply 107 = .ok (.aload_n 0, 1) := by decide +kernel
theorem dX0_apply_108 : decode cX0_apply 108 = .ok (.dup, 1) := by decide +kernel
theorem dX0_apply_109 : decode cX0_apply 109 = .ok (.getfield 53, 3) := by decide +kernel
theorem dX0_apply_112 : decode cX0_apply 112 = .ok (.iconst 1, 1) := by decide +kernel
theorem dX0_apply_113 : decode cX0_apply 113 = .ok (.iadd, 1) := by decide +kernel
theorem dX0_apply_114 : decode cX0_apply 114 = .ok (.putfield 53, 3) := by decide +kernel
theorem dX0_apply_117 : decode cX0_apply 117 = .ok (.return_, 1) := by decide +kernel
set_option maxRecDepth 20000 in
theorem ggX0_soundOf_X0_signAt : GoodIn wsX0_soundOf wsX0_signAt := goodIn_r _ [6, 7, 8, 9, 10, 11, 12, 13, 14, 15, 16, 17, 18, 19, 20, 21, 22, 23] (by decide +kernel) (by decide +kernel)
set_option maxRecDepth 20000 in
theorem gX0_soundOf_X0_signAt : GoodIn wsX0_soundOf (wsV RX0 67 RX0 yX0_signAt wsX0_signAt) := goodIn_app (goodIn_of _ (by decide +kernel)) ggX0_soundOf_X0_signAt
theorem dX0_soundOf_0 : decode cX0_soundOf 0 = .ok (.iconst 0, 1) := by decide +kernel
theorem dX0_soundOf_1 : decode cX0_soundOf 1 = .ok (.istore_n 2, 1) := by decide +kernel
theorem dX0_soundOf_2 : decode cX0_soundOf 2 = .ok (.iconst 0, 1) := by decide +kernel
theorem dX0_soundOf_3 : decode cX0_soundOf 3 = .ok (.istore_n 3, 1) := by decide +kernel
theorem dX0_soundOf_4 : decode cX0_soundOf 4 = .ok (.iconst 0, 1) := by decide +kernel
theorem dX0_soundOf_5 : decode cX0_soundOf 5 = .ok (.istore 4, 2) := by decide +kernel
theorem dX0_soundOf_7 : decode cX0_soundOf 7 = .ok (.iload 4, 2) := by decide +kernel
theorem dX0_soundOf_9 : decode cX0_soundOf 9 = .ok (.aload_n 0, 1) := by decide +kernel
theorem dX0_soundOf_10 : decode cX0_soundOf 10 = .ok (.getfield 19, 3) := by decide +kernel
theorem dX0_soundOf_13 : decode cX0_soundOf 13 = .ok (.iload_n 1, 1) := by decide +kernel
theorem dX0_soundOf_14 : decode cX0_soundOf 14 = .ok (.iaload, 1) := by decide +kernel
theorem dX0_soundOf_15 : decode cX0_soundOf 15 = .ok (.if_icmp .ge 51, 3) := by decide +kernel
theorem dX0_soundOf_18 : decode cX0_soundOf 18 = .ok (.aload_n 0, 1) := by decide +kernel
theorem dX0_soundOf_19 : decode cX0_soundOf 19 = .ok (.iload_n 1, 1) := by decide +kernel
theorem dX0_soundOf_20 : decode cX0_soundOf 20 = .ok (.iload 4, 2) := by decide +kernel
theorem dX0_soundOf_22 : decode cX0_soundOf 22 = .ok (.invokevirtual 67, 3) := by decide +kernel
theorem dX0_soundOf_25 : decode cX0_soundOf 25 = .ok (.istore 5, 2) := by decide +kernel
theorem dX0_soundOf_27 : decode cX0_soundOf 27 = .ok (.iload 5, 2) := by decide +kernel
theorem dX0_soundOf_29 : decode cX0_soundOf 29 = .ok (.ifCond .eq 31, 3) := by decide +kernel
theorem dX0_soundOf_32 : decode cX0_soundOf 32 = .ok (.iload 5, 2) := by decide +kernel
theorem dX0_soundOf_34 : decode cX0_soundOf 34 = .ok (.iload_n 3, 1) := by decide +kernel
theorem dX0_soundOf_35 : decode cX0_soundOf 35 = .ok (.if_icmp .eq 25, 3) := by decide +kernel
theorem dX0_soundOf_38 : decode cX0_soundOf 38 = .ok (.iload 5, 2) := by decide +kernel
theorem dX0_soundOf_40 : decode cX0_soundOf 40 = .ok (.bipush 7, 2) := by decide +kernel
theorem dX0_soundOf_42 : decode cX0_soundOf 42 = .ok (.if_icmp .ne 7, 3) := by decide +kernel
theorem dX0_soundOf_45 : decode cX0_soundOf 45 = .ok (.iload_n 3, 1) := by decide +kernel
theorem dX0_soundOf_46 : decode cX0_soundOf 46 = .ok (.ifCond .ne 11, 3) := by decide +kernel
theorem dX0_soundOf_49 : decode cX0_soundOf 49 = .ok (.iload_n 2, 1) := by decide +kernel
theorem dX0_soundOf_50 : decode cX0_soundOf 50 = .ok (.bipush 10, 2) := by decide +kernel
theorem dX0_soundOf_52 : decode cX0_soundOf 52 = .ok (.imul, 1) := by decide +kernel
theorem dX0_soundOf_53 : decode cX0_soundOf 53 = .ok (.iload 5, 2) := by decide +kernel
theorem dX0_soundOf_55 : decode cX0_soundOf 55 = .ok (.iadd, 1) := by decide +kernel
theorem dX0_soundOf_56 : decode cX0_soundOf 56 = .ok (.istore_n 2, 1) := by decide +kernel
theorem dX0_soundOf_57 : decode cX0_soundOf 57 = .ok (.iload 5, 2) := by decide +kernel
theorem dX0_soundOf_59 : decode cX0_soundOf 59 = .ok (.istore_n 3, 1) := by decide +kernel
theorem dX0_soundOf_60 : decode cX0_soundOf 60 = .ok (.iinc 4 1, 3) := by decide +kernel
theorem dX0_soundOf_63 : decode cX0_soundOf 63 = .ok (.goto (-56), 3) := by decide +kernel
theorem dX0_soundOf_66 : decode cX0_soundOf 66 = .ok (.iload_n 2, 1) := by decide +kernel
theorem dX0_soundOf_67 : decode cX0_soundOf 67 = .ok (.ireturn, 1) := by decide +kernel
theorem dX0_signAt_0 : decode cX0_signAt 0 = .ok (.iload_n 2, 1) := by decide +kernel
theorem dX0_signAt_1 : decode cX0_signAt 1 = .ok (.ifCond .lt 9, 3) := by decide +kernel
theorem dX0_signAt_4 : decode cX0_signAt 4 = .ok (.iload_n 2, 1) := by decide +kernel
theorem dX0_signAt_5 : decode cX0_signAt 5 = .ok (.bipush 9, 2) := by decide +kernel
theorem dX0_signAt_7 : decode cX0_signAt 7 = .ok (.if_icmp .lt 5, 3) := by decide +kernel
theorem dX0_signAt_10 : decode cX0_signAt 10 = .ok (.iconst 0, 1) := by decide +kernel
theorem dX0_signAt_11 : decode cX0_signAt 11 = .ok (.ireturn, 1) := by decide +kernel
theorem dX0_signAt_12 : decode cX0_signAt 12 = .ok (.aload_n 0, 1) := by decide +kernel
theorem dX0_signAt_13 : decode cX0_signAt 13 = .ok (.getfield 15, 3) := by decide +kernel
theorem dX0_signAt_16 : decode cX0_signAt 16 = .ok (.iload_n 1, 1) := by decide +kernel
theorem dX0_signAt_17 : decode cX0_signAt 17 = .ok (.bipush 9, 2) := by decide +kernel
theorem dX0_signAt_19 : decode cX0_signAt 19 = .ok (.imul, 1) := by decide +kernel
theorem dX0_signAt_20 : decode cX0_signAt 20 = .ok (.iload_n 2, 1) := by decide +kernel
theorem dX0_signAt_21 : decode cX0_signAt 21 = .ok (.iadd, 1) := by decide +kernel
theorem dX0_signAt_22 : decode cX0_signAt 22 = .ok (.caload, 1) := by decide +kernel
theorem dX0_signAt_23 : decode cX0_signAt 23 = .ok (.bipush 97, 2) := by decide +kernel
theorem dX0_signAt_25 : decode cX0_signAt 25 = .ok (.isub, 1) := by decide +kernel
theorem dX0_signAt_26 : decode cX0_signAt 26 = .ok (.istore_n 3, 1) := by decide +kernel
theorem dX0_signAt_27 : decode cX0_signAt 27 = .ok (.iload_n 3, 1) := by decide +kernel
theorem dX0_signAt_28 : decode cX0_signAt 28 = .ok (.ifCond .lt 19, 3) := by decide +kernel
theorem dX0_signAt_31 : decode cX0_signAt 31 = .ok (.iload_n 3, 1) := by decide +kernel
theorem dX0_signAt_32 : decode cX0_signAt 32 = .ok (.getstatic 71, 3) := by decide +kernel
theorem dX0_signAt_35 : decode cX0_signAt 35 = .ok (.arraylength, 1) := by decide +kernel
theorem dX0_signAt_36 : decode cX0_signAt 36 = .ok (.if_icmp .ge 11, 3) := by decide +kernel
theorem dX0_signAt_39 : decode cX0_signAt 39 = .ok (.getstatic 71, 3) := by decide +kernel
theorem dX0_signAt_42 : decode cX0_signAt 42 = .ok (.iload_n 3, 1) := by decide +kernel
theorem dX0_signAt_43 : decode cX0_signAt 43 = .ok (.iaload, 1) := by decide +kernel
theorem dX0_signAt_44 : decode cX0_signAt 44 = .ok (.goto 4, 3) := by decide +kernel
theorem dX0_signAt_47 : decode cX0_signAt 47 = .ok (.iconst 0, 1) := by decide +kernel
theorem dX0_signAt_48 : decode cX0_signAt 48 = .ok (.ireturn, 1) := by decide +kernel
set_option maxRecDepth 20000 in
theorem ggX0_alikeByLetters_X0_nextHeard : GoodIn wsX0_alikeByLetters wsX0_nextHeard := goodIn_r _ [6, 1, 7, 8, 9, 5, 10, 11, 12, 13, 14, 15, 16, 17, 18, 19, 20, 21, 22, 23, 24, 25, 26, 27, 28, 29, 30, 31] (by decide +kernel) (by decide +kernel)
set_option maxRecDepth 20000 in
theorem gX0_alikeByLetters_X0_nextHeard : GoodIn wsX0_alikeByLetters (wsV RX0 74 RX0 yX0_nextHeard wsX0_nextHeard) := goodIn_app (goodIn_of _ (by decide +kernel)) ggX0_alikeByLetters_X0_nextHeard
set_option maxRecDepth 20000 in
theorem ggX0_alikeByLetters_X0_signAt : GoodIn wsX0_alikeByLetters wsX0_signAt := goodIn_r _ [14, 15, 16, 17, 18, 19, 20, 21, 22, 23, 24, 25, 26, 27, 28, 29, 30, 31] (by decide +kernel) (by decide +kernel)
set_option maxRecDepth 20000 in
theorem gX0_alikeByLetters_X0_signAt : GoodIn wsX0_alikeByLetters (wsV RX0 67 RX0 yX0_signAt wsX0_signAt) := goodIn_app (goodIn_of _ (by decide +kernel)) ggX0_alikeByLetters_X0_signAt
theorem dX0_alikeByLetters_0 : decode cX0_alikeByLetters 0 = .ok (.aload_n 0, 1) := by decide +kernel
theorem dX0_alikeByLetters_1 : decode cX0_alikeByLetters 1 = .ok (.iload_n 1, 1) := by decide +kernel
theorem dX0_alikeByLetters_2 : decode cX0_alikeByLetters 2 = .ok (.iconst 0, 1) := by decide +kernel
theorem dX0_alikeByLetters_3 : decode cX0_alikeByLetters 3 = .ok (.invokevirtual 74, 3) := by decide +kernel
theorem dX0_alikeByLetters_6 : decode cX0_alikeByLetters 6 = .ok (.istore_n 3, 1) := by decide +kernel
theorem dX0_alikeByLetters_7 : decode cX0_alikeByLetters 7 = .ok (.aload_n 0, 1) := by decide +kernel
theorem dX0_alikeByLetters_8 : decode cX0_alikeByLetters 8 = .ok (.iload_n 2, 1) := by decide +kernel
theorem dX0_alikeByLetters_9 : decode cX0_alikeByLetters 9 = .ok (.iconst 0, 1) := by decide +kernel
theorem dX0_alikeByLetters_10 : decode cX0_alikeByLetters 10 = .ok (.invokevirtual 74, 3) := by decide +kernel
theorem dX0_alikeByLetters_13 : decode cX0_alikeByLetters 13 = .ok (.istore 4, 2) := by decide +kernel
theorem dX0_alikeByLetters_15 : decode cX0_alikeByLetters 15 = .ok (.iconst 0, 1) := by decide +kernel
theorem dX0_alikeByLetters_16 : decode cX0_alikeByLetters 16 = .ok (.istore 5, 2) := by decide +kernel
theorem dX0_alikeByLetters_18 : decode cX0_alikeByLetters 18 = .ok (.iload 5, 2) := by decide +kernel
theorem dX0_alikeByLetters_20 : decode cX0_alikeByLetters 20 = .ok (.bipush 9, 2) := by decide +kernel
theorem dX0_alikeByLetters_22 : decode cX0_alikeByLetters 22 = .ok (.if_icmp .ge 68, 3) := by decide +kernel
theorem dX0_alikeByLetters_25 : decode cX0_alikeByLetters 25 = .ok (.iload_n 3, 1) := by decide +kernel
theorem dX0_alikeByLetters_26 : decode cX0_alikeByLetters 26 = .ok (.aload_n 0, 1) := by decide +kernel
theorem dX0_alikeByLetters_27 : decode cX0_alikeByLetters 27 = .ok (.getfield 19, 3) := by decide +kernel
theorem dX0_alikeByLetters_30 : decode cX0_alikeByLetters 30 = .ok (.iload_n 1, 1) := by decide +kernel
theorem dX0_alikeByLetters_31 : decode cX0_alikeByLetters 31 = .ok (.iaload, 1) := by decide +kernel
theorem dX0_alikeByLetters_32 : decode cX0_alikeByLetters 32 = .ok (.if_icmp .ge 58, 3) := by decide +kernel
theorem dX0_alikeByLetters_35 : decode cX0_alikeByLetters 35 = .ok (.iload 4, 2) := by decide +kernel
theorem dX0_alikeByLetters_37 : decode cX0_alikeByLetters 37 = .ok (.aload_n 0, 1) := by decide +kernel
theorem dX0_alikeByLetters_38 : decode cX0_alikeByLetters 38 = .ok (.getfield 19, 3) := by decide +kernel
theorem dX0_alikeByLetters_41 : decode cX0_alikeByLetters 41 = .ok (.iload_n 2, 1) := by decide +kernel
theorem dX0_alikeByLetters_42 : decode cX0_alikeByLetters 42 = .ok (.iaload, 1) := by decide +kernel
theorem dX0_alikeByLetters_43 : decode cX0_alikeByLetters 43 = .ok (.if_icmp .ge 47, 3) := by decide +kernel
theorem dX0_alikeByLetters_46 : decode cX0_alikeByLetters 46 = .ok (.aload_n 0, 1) := by decide +kernel
theorem dX0_alikeByLetters_47 : decode cX0_alikeByLetters 47 = .ok (.iload_n 1, 1) := by decide +kernel
theorem dX0_alikeByLetters_48 : decode cX0_alikeByLetters 48 = .ok (.iload_n 3, 1) := by decide +kernel
theorem dX0_alikeByLetters_49 : decode cX0_alikeByLetters 49 = .ok (.invokevirtual 67, 3) := by decide +kernel
theorem dX0_alikeByLetters_52 : decode cX0_alikeByLetters 52 = .ok (.aload_n 0, 1) := by decide +kernel
theorem dX0_alikeByLetters_53 : decode cX0_alikeByLetters 53 = .ok (.iload_n 2, 1) := by decide +kernel
theorem dX0_alikeByLetters_54 : decode cX0_alikeByLetters 54 = .ok (.iload 4, 2) := by decide +kernel
theorem dX0_alikeByLetters_56 : decode cX0_alikeByLetters 56 = .ok (.invokevirtual 67, 3) := by decide +kernel
theorem dX0_alikeByLetters_59 : decode cX0_alikeByLetters 59 = .ok (.if_icmp .eq 5, 3) := by decide +kernel
theorem dX0_alikeByLetters_62 : decode cX0_alikeByLetters 62 = .ok (.iconst 0, 1) := by decide +kernel
theorem dX0_alikeByLetters_63 : decode cX0_alikeByLetters 63 = .ok (.ireturn, 1) := by decide +kernel
theorem dX0_alikeByLetters_64 : decode cX0_alikeByLetters 64 = .ok (.aload_n 0, 1) := by decide +kernel
theorem dX0_alikeByLetters_65 : decode cX0_alikeByLetters 65 = .ok (.iload_n 1, 1) := by decide +kernel
theorem dX0_alikeByLetters_66 : decode cX0_alikeByLetters 66 = .ok (.iload_n 3, 1) := by decide +kernel
theorem dX0_alikeByLetters_67 : decode cX0_alikeByLetters 67 = .ok (.iconst 1, 1) := by decide +kernel
theorem dX0_alikeByLetters_68 : decode cX0_alikeByLetters 68 = .ok (.iadd, 1) := by decide +kernel
theorem dX0_alikeByLetters_69 : decode cX0_alikeByLetters 69 = .ok (.invokevirtual 74, 3) := by decide +kernel
theorem dX0_alikeByLetters_72 : decode cX0_alikeByLetters 72 = .ok (.istore_n 3, 1) := by decide +kernel
theorem dX0_alikeByLetters_73 : decode cX0_alikeByLetters 73 = .ok (.aload_n 0, 1) := by decide +kernel
theorem dX0_alikeByLetters_74 : decode cX0_alikeByLetters 74 = .ok (.iload_n 2, 1) := by decide +kernel
theorem dX0_alikeByLetters_75 : decode cX0_alikeByLetters 75 = .ok (.iload 4, 2) := by decide +kernel
theorem dX0_alikeByLetters_77 : decode cX0_alikeByLetters 77 = .ok (.iconst 1, 1) := by decide +kernel
theorem dX0_alikeByLetters_78 : decode cX0_alikeByLetters 78 = .ok (.iadd, 1) := by decide +kernel
theorem dX0_alikeByLetters_79 : decode cX0_alikeByLetters 79 = .ok (.invokevirtual 74, 3) := by decide +kernel
theorem dX0_alikeByLetters_82 : decode cX0_alikeByLetters 82 = .ok (.istore 4, 2) := by decide +kernel
theorem dX0_alikeByLetters_84 : decode cX0_alikeByLetters 84 = .ok (.iinc 5 1, 3) := by decide +kernel
theorem dX0_alikeByLetters_87 : decode cX0_alikeByLetters 87 = .ok (.goto (-69), 3) := by decide +kernel
theorem dX0_alikeByLetters_90 : decode cX0_alikeByLetters 90 = .ok (.iload_n 3, 1) := by decide +kernel
theorem dX0_alikeByLetters_91 : decode cX0_alikeByLetters 91 = .ok (.aload_n 0, 1) := by decide +kernel
theorem dX0_alikeByLetters_92 : decode cX0_alikeByLetters 92 = .ok (.getfield 19, 3) := by decide +kernel
theorem dX0_alikeByLetters_95 : decode cX0_alikeByLetters 95 = .ok (.iload_n 1, 1) := by decide +kernel
theorem dX0_alikeByLetters_96 : decode cX0_alikeByLetters 96 = .ok (.iaload, 1) := by decide +kernel
theorem dX0_alikeByLetters_97 : decode cX0_alikeByLetters 97 = .ok (.if_icmp .lt 18, 3) := by decide +kernel
theorem dX0_alikeByLetters_100 : decode cX0_alikeByLetters 100 = .ok (.iload 4, 2) := by decide +kernel
theorem dX0_alikeByLetters_102 : decode cX0_alikeByLetters 102 = .ok (.aload_n 0, 1) := by decide +kernel
theorem dX0_alikeByLetters_103 : decode cX0_alikeByLetters 103 = .ok (.getfield 19, 3) := by decide +kernel
theorem dX0_alikeByLetters_106 : decode cX0_alikeByLetters 106 = .ok (.iload_n 2, 1) := by decide +kernel
theorem dX0_alikeByLetters_107 : decode cX0_alikeByLetters 107 = .ok (.iaload, 1) := by decide +kernel
theorem dX0_alikeByLetters_108 : decode cX0_alikeByLetters 108 = .ok (.if_icmp .lt 7, 3) := by decide +kernel
theorem dX0_alikeByLetters_111 : decode cX0_alikeByLetters 111 = .ok (.iconst 1, 1) := by decide +kernel
theorem dX0_alikeByLetters_112 : decode cX0_alikeByLetters 112 = .ok (.goto 4, 3) := by decide +kernel
theorem dX0_alikeByLetters_115 : decode cX0_alikeByLetters 115 = .ok (.iconst 0, 1) := by decide +kernel
theorem dX0_alikeByLetters_116 : decode cX0_alikeByLetters 116 = .ok (.ireturn, 1) := by decide +kernel
set_option maxRecDepth 20000 in
theorem ggX0_nextHeard_X0_isHeard : GoodIn wsX0_nextHeard wsX0_isHeard := goodIn_r _ [6, 7, 8, 9, 5, 10, 11, 12, 13, 14, 15, 16, 17, 18, 19, 20, 21, 22, 23, 24, 25, 26, 27] (by decide +kernel) (by decide +kernel)
set_option maxRecDepth 20000 in
theorem gX0_nextHeard_X0_isHeard : GoodIn wsX0_nextHeard (wsV RX0 77 RX0 yX0_isHeard wsX0_isHeard) := goodIn_app (goodIn_of _ (by decide +kernel)) ggX0_nextHeard_X0_isHeard
theorem dX0_nextHeard_0 : decode cX0_nextHeard 0 = .ok (.iload_n 2, 1) := by decide +kernel
theorem dX0_nextHeard_1 : decode cX0_nextHeard 1 = .ok (.istore_n 3, 1) := by decide +kernel
theorem dX0_nextHeard_2 : decode cX0_nextHeard 2 = .ok (.iload_n 3, 1) := by decide +kernel
theorem dX0_nextHeard_3 : decode cX0_nextHeard 3 = .ok (.aload_n 0, 1) := by decide +kernel
theorem dX0_nextHeard_4 : decode cX0_nextHeard 4 = .ok (.getfield 19, 3) := by decide +kernel
theorem dX0_nextHeard_7 : decode cX0_nextHeard 7 = .ok (.iload_n 1, 1) := by decide +kernel
theorem dX0_nextHeard_8 : decode cX0_nextHeard 8 = .ok (.iaload, 1) := by decide +kernel
theorem dX0_nextHeard_9 : decode cX0_nextHeard 9 = .ok (.if_icmp .ge 18, 3) := by decide +kernel
theorem dX0_nextHeard_12 : decode cX0_nextHeard 12 = .ok (.aload_n 0, 1) := by decide +kernel
theorem dX0_nextHeard_13 : decode cX0_nextHeard 13 = .ok (.iload_n 1, 1) := by decide +kernel
theorem dX0_nextHeard_14 : decode cX0_nextHeard 14 = .ok (.iload_n 3, 1) := by decide +kernel
theorem dX0_nextHeard_15 : decode cX0_nextHeard 15 = .ok (.invokevirtual 77, 3) := by decide +kernel
theorem dX0_nextHeard_18 : decode cX0_nextHeard 18 = .ok (.ifCond .ne 9, 3) := by decide +kernel
theorem dX0_nextHeard_21 : decode cX0_nextHeard 21 = .ok (.iinc 3 1, 3) := by decide +kernel
theorem dX0_nextHeard_24 : decode cX0_nextHeard 24 = .ok (.goto (-22), 3) := by decide +kernel
theorem dX0_nextHeard_27 : decode cX0_nextHeard 27 = .ok (.iload_n 3, 1) := by decide +kernel
theorem dX0_nextHeard_28 : decode cX0_nextHeard 28 = .ok (.ireturn, 1) := by decide +kernel
set_option maxRecDepth 20000 in
theorem ggX0_isHeard_X0_signAt : GoodIn wsX0_isHeard wsX0_signAt := goodIn_r _ [5, 6, 7, 8, 9, 10, 11, 12, 13, 14, 15, 16, 17, 18, 19, 20, 21, 22] (by decide +kernel) (by decide +kernel)
set_option maxRecDepth 20000 in
theorem gX0_isHeard_X0_signAt : GoodIn wsX0_isHeard (wsV RX0 67 RX0 yX0_signAt wsX0_signAt) := goodIn_app (goodIn_of _ (by decide +kernel)) ggX0_isHeard_X0_signAt
theorem dX0_isHeard_0 : decode cX0_isHeard 0 = .ok (.aload_n 0, 1) := by decide +kernel
theorem dX0_isHeard_1 : decode cX0_isHeard 1 = .ok (.iload_n 1, 1) := by decide +kernel
theorem dX0_isHeard_2 : decode cX0_isHeard 2 = .ok (.iload_n 2, 1) := by decide +kernel
theorem dX0_isHeard_3 : decode cX0_isHeard 3 = .ok (.invokevirtual 67, 3) := by decide +kernel
theorem dX0_isHeard_6 : decode cX0_isHeard 6 = .ok (.istore_n 3, 1) := by decide +kernel
theorem dX0_isHeard_7 : decode cX0_isHeard 7 = .ok (.iconst 0, 1) := by decide +kernel
theorem dX0_isHeard_8 : decode cX0_isHeard 8 = .ok (.istore 4, 2) := by decide +kernel
theorem dX0_isHeard_10 : decode cX0_isHeard 10 = .ok (.iload_n 2, 1) := by decide +kernel
theorem dX0_isHeard_11 : decode cX0_isHeard 11 = .ok (.iconst 1, 1) := by decide +kernel
theorem dX0_isHeard_12 : decode cX0_isHeard 12 = .ok (.isub, 1) := by decide +kernel
theorem dX0_isHeard_13 : decode cX0_isHeard 13 = .ok (.istore 5, 2) := by decide +kernel
theorem dX0_isHeard_15 : decode cX0_isHeard 15 = .ok (.iload 5, 2) := by decide +kernel
theorem dX0_isHeard_17 : decode cX0_isHeard 17 = .ok (.ifCond .lt 23, 3) := by decide +kernel
theorem dX0_isHeard_20 : decode cX0_isHeard 20 = .ok (.iload 4, 2) := by decide +kernel
theorem dX0_isHeard_22 : decode cX0_isHeard 22 = .ok (.ifCond .ne 18, 3) := by decide +kernel
theorem dX0_isHeard_25 : decode cX0_isHeard 25 = .ok (.aload_n 0, 1) := by decide +kernel
theorem dX0_isHeard_26 : decode cX0_isHeard 26 = .ok (.iload_n 1, 1) := by decide +kernel
theorem dX0_isHeard_27 : decode cX0_isHeard 27 = .ok (.iload 5, 2) := by decide +kernel
theorem dX0_isHeard_29 : decode cX0_isHeard 29 = .ok (.invokevirtual 67, 3) := by decide +kernel
theorem dX0_isHeard_32 : decode cX0_isHeard 32 = .ok (.istore 4, 2) := by decide +kernel
theorem dX0_isHeard_34 : decode cX0_isHeard 34 = .ok (.iinc 5 (-1), 3) := by decide +kernel
theorem dX0_isHeard_37 : decode cX0_isHeard 37 = .ok (.goto (-22), 3) := by decide +kernel
theorem dX0_isHeard_40 : decode cX0_isHeard 40 = .ok (.iload_n 3, 1) := by decide +kernel
theorem dX0_isHeard_41 : decode cX0_isHeard 41 = .ok (.ifCond .eq 24, 3) := by decide +kernel
theorem dX0_isHeard_44 : decode cX0_isHeard 44 = .ok (.iload_n 3, 1) := by decide +kernel
theorem dX0_isHeard_45 : decode cX0_isHeard 45 = .ok (.iload 4, 2) := by decide +kernel
theorem dX0_isHeard_47 : decode cX0_isHeard 47 = .ok (.if_icmp .eq 18, 3) := by decide +kernel
theorem dX0_isHeard_50 : decode cX0_isHeard 50 = .ok (.iload_n 3, 1) := by decide +kernel
theorem dX0_isHeard_51 : decode cX0_isHeard 51 = .ok (.bipush 7, 2) := by decide +kernel
theorem dX0_isHeard_53 : decode cX0_isHeard 53 = .ok (.if_icmp .ne 8, 3) := by decide +kernel
theorem dX0_isHeard_56 : decode cX0_isHeard 56 = .ok (.iload 4, 2) := by decide +kernel
theorem dX0_isHeard_58 : decode cX0_isHeard 58 = .ok (.ifCond .ne 7, 3) := by decide +kernel
theorem dX0_isHeard_61 : decode cX0_isHeard 61 = .ok (.iconst 1, 1) := by decide +kernel
theorem dX0_isHeard_62 : decode cX0_isHeard 62 = .ok (.goto 4, 3) := by decide +kernel
theorem dX0_isHeard_65 : decode cX0_isHeard 65 = .ok (.iconst 0, 1) := by decide +kernel
theorem dX0_isHeard_66 : decode cX0_isHeard 66 = .ok (.ireturn, 1) := by decide +kernel
theorem dX0_bearers_0 : decode cX0_bearers 0 = .ok (.iconst 0, 1) := by decide +kernel
theorem dX0_bearers_1 : decode cX0_bearers 1 = .ok (.istore_n 2, 1) := by decide +kernel
theorem dX0_bearers_2 : decode cX0_bearers 2 = .ok (.iconst 0, 1) := by decide +kernel
theorem dX0_bearers_3 : decode cX0_bearers 3 = .ok (.istore_n 3, 1) := by decide +kernel
theorem dX0_bearers_4 : decode cX0_bearers 4 = .ok (.iload_n 3, 1) := by decide +kernel
theorem dX0_bearers_5 : decode cX0_bearers 5 = .ok (.bipush 12, 2) := by decide +kernel
theorem dX0_bearers_7 : decode cX0_bearers 7 = .ok (.if_icmp .ge 22, 3) := by decide +kernel
theorem dX0_bearers_10 : decode cX0_bearers 10 = .ok (.aload_n 0, 1) := by decide +kernel
theorem dX0_bearers_11 : decode cX0_bearers 11 = .ok (.getfield 35, 3) := by decide +kernel
theorem dX0_bearers_14 : decode cX0_bearers 14 = .ok (.iload_n 3, 1) := by decide +kernel
theorem dX0_bearers_15 : decode cX0_bearers 15 = .ok (.iaload, 1) := by decide +kernel
theorem dX0_bearers_16 : decode cX0_bearers 16 = .ok (.iload_n 1, 1) := by decide +kernel
theorem dX0_bearers_17 : decode cX0_bearers 17 = .ok (.if_icmp .ne 6, 3) := by decide +kernel
theorem dX0_bearers_20 : decode cX0_bearers 20 = .ok (.iinc 2 1, 3) := by decide +kernel
theorem dX0_bearers_23 : decode cX0_bearers 23 = .ok (.iinc 3 1, 3) := by decide +kernel
theorem dX0_bearers_26 : decode cX0_bearers 26 = .ok (.goto (-22), 3) := by decide +kernel
theorem dX0_bearers_29 : decode cX0_bearers 29 = .ok (.iload_n 2, 1) := by decide +kernel
theorem dX0_bearers_30 : decode cX0_bearers 30 = .ok (.ireturn, 1) := by decide +kernel
theorem dX0_bearerSet_0 : decode cX0_bearerSet 0 = .ok (.iconst 0, 1) := by decide +kernel
theorem dX0_bearerSet_1 : decode cX0_bearerSet 1 = .ok (.istore_n 2, 1) := by decide +kernel
theorem dX0_bearerSet_2 : decode cX0_bearerSet 2 = .ok (.iconst 0, 1) := by decide +kernel
theorem dX0_bearerSet_3 : decode cX0_bearerSet 3 = .ok (.istore_n 3, 1) := by decide +kernel
theorem dX0_bearerSet_4 : decode cX0_bearerSet 4 = .ok (.iload_n 3, 1) := by decide +kernel
theorem dX0_bearerSet_5 : decode cX0_bearerSet 5 = .ok (.bipush 12, 2) := by decide +kernel
theorem dX0_bearerSet_7 : decode cX0_bearerSet 7 = .ok (.if_icmp .ge 25, 3) := by decide +kernel
theorem dX0_bearerSet_10 : decode cX0_bearerSet 10 = .ok (.aload_n 0, 1) := by decide +kernel
theorem dX0_bearerSet_11 : decode cX0_bearerSet 11 = .ok (.getfield 35, 3) := by decide +kernel
theorem dX0_bearerSet_14 : decode cX0_bearerSet 14 = .ok (.iload_n 3, 1) := by decide +kernel
theorem dX0_bearerSet_15 : decode cX0_bearerSet 15 = .ok (.iaload, 1) := by decide +kernel
theorem dX0_bearerSet_16 : decode cX0_bearerSet 16 = .ok (.iload_n 1, 1) := by decide +kernel
theorem dX0_bearerSet_17 : decode cX0_bearerSet 17 = .ok (.if_icmp .ne 9, 3) := by decide +kernel
theorem dX0_bearerSet_20 : decode cX0_bearerSet 20 = .ok (.iload_n 2, 1) := by decide +kernel
theorem dX0_bearerSet_21 : decode cX0_bearerSet 21 = .ok (.iconst 1, 1) := by decide +kernel
theorem dX0_bearerSet_22 : decode cX0_bearerSet 22 = .ok (.iload_n 3, 1) := by decide +kernel
theorem dX0_bearerSet_23 : decode cX0_bearerSet 23 = .ok (.ishl, 1) := by decide +kernel
theorem dX0_bearerSet_24 : decode cX0_bearerSet 24 = .ok (.ior, 1) := by decide +kernel
theorem dX0_bearerSet_25 : decode cX0_bearerSet 25 = .ok (.istore_n 2, 1) := by decide +kernel
theorem dX0_bearerSet_26 : decode cX0_bearerSet 26 = .ok (.iinc 3 1, 3) := by decide +kernel
theorem dX0_bearerSet_29 : decode cX0_bearerSet 29 = .ok (.goto (-25), 3) := by decide +kernel
theorem dX0_bearerSet_32 : decode cX0_bearerSet 32 = .ok (.iload_n 2, 1) := by decide +kernel
theorem dX0_bearerSet_33 : decode cX0_bearerSet 33 = .ok (.ireturn, 1) := by decide +kernel
set_option maxRecDepth 20000 in
theorem ggX0_whereIs_X0_bearers : GoodIn wsX0_whereIs wsX0_bearers := goodIn_r _ [6, 7, 8, 9, 10, 11, 12, 13, 14, 15, 16, 17, 18, 19, 20, 21, 22, 23] (by decide +kernel) (by decide +kernel)
set_option maxRecDepth 20000 in
theorem gX0_whereIs_X0_bearers : GoodIn wsX0_whereIs (wsV RX0 81 RX0 yX0_bearers wsX0_bearers) := goodIn_app (goodIn_of _ (by decide +kernel)) ggX0_whereIs_X0_bearers
theorem dX0_whereIs_0 : decode cX0_whereIs 0 = .ok (.aload_n 0, 1) := by decide +kernel
theorem dX0_whereIs_1 : decode cX0_whereIs 1 = .ok (.getfield 28, 3) := by decide +kernel
theorem dX0_whereIs_4 : decode cX0_whereIs 4 = .ok (.iload_n 1, 1) := by decide +kernel
theorem dX0_whereIs_5 : decode cX0_whereIs 5 = .ok (.baload, 1) := by decide +kernel
theorem dX0_whereIs_6 : decode cX0_whereIs 6 = .ok (.ifCond .eq 5, 3) := by decide +kernel
theorem dX0_whereIs_9 : decode cX0_whereIs 9 = .ok (.iconst 2, 1) := by decide +kernel
theorem dX0_whereIs_10 : decode cX0_whereIs 10 = .ok (.ireturn, 1) := by decide +kernel
theorem dX0_whereIs_11 : decode cX0_whereIs 11 = .ok (.aload_n 0, 1) := by decide +kernel
theorem dX0_whereIs_12 : decode cX0_whereIs 12 = .ok (.iload_n 1, 1) := by decide +kernel
theorem dX0_whereIs_13 : decode cX0_whereIs 13 = .ok (.invokevirtual 81, 3) := by decide +kernel
theorem dX0_whereIs_16 : decode cX0_whereIs 16 = .ok (.ifCond .le 7, 3) := by decide +kernel
theorem dX0_whereIs_19 : decode cX0_whereIs 19 = .ok (.iconst 1, 1) := by decide +kernel
theorem dX0_whereIs_20 : decode cX0_whereIs 20 = .ok (.goto 4, 3) := by decide +kernel
theorem dX0_whereIs_23 : decode cX0_whereIs 23 = .ok (.iconst 0, 1) := by decide +kernel
theorem dX0_whereIs_24 : decode cX0_whereIs 24 = .ok (.ireturn, 1) := by decide +kernel
set_option maxRecDepth 20000 in
theorem ggX0_waits_X0_whereIs : GoodIn wsX0_waits wsX0_whereIs := goodIn_r _ [5, 6, 7, 8, 9, 4, 10, 11, 12, 13, 14, 15, 16, 17, 18, 19, 20, 21, 22, 23, 24, 25, 26, 27] (by decide +kernel) (by decide +kernel)
set_option maxRecDepth 20000 in
theorem gX0_waits_X0_whereIs : GoodIn wsX0_waits (wsV RX0 84 RX0 yX0_whereIs wsX0_whereIs) := goodIn_app (goodIn_of _ (by decide +kernel)) ggX0_waits_X0_whereIs
theorem dX0_waits_0 : decode cX0_waits 0 = .ok (.aload_n 0, 1) := by decide +kernel
theorem dX0_waits_1 : decode cX0_waits 1 = .ok (.iload_n 1, 1) := by decide +kernel
theorem dX0_waits_2 : decode cX0_waits 2 = .ok (.invokevirtual 84, 3) := by decide +kernel
theorem dX0_waits_5 : decode cX0_waits 5 = .ok (.ifCond .ne 7, 3) := by decide +kernel
theorem dX0_waits_8 : decode cX0_waits 8 = .ok (.iconst 1, 1) := by decide +kernel
theorem dX0_waits_9 : decode cX0_waits 9 = .ok (.goto 4, 3) := by decide +kernel
theorem dX0_waits_12 : decode cX0_waits 12 = .ok (.iconst 0, 1) := by decide +kernel
theorem dX0_waits_13 : decode cX0_waits 13 = .ok (.ireturn, 1) := by decide +kernel
set_option maxRecDepth 20000 in
theorem ggX0_placeInQueue_X0_waits : GoodIn wsX0_placeInQueue wsX0_waits := goodIn_r _ [7, 8, 9, 10, 6, 11, 12, 13, 14, 15, 16, 17, 18, 19, 20, 21, 22, 23, 24, 25, 26, 27, 28, 29, 30, 31, 32, 33] (by decide +kernel) (by decide +kernel)
set_option maxRecDepth 20000 in
theorem gX0_placeInQueue_X0_waits : GoodIn wsX0_placeInQueue (wsV RX0 87 RX0 yX0_waits wsX0_waits) := goodIn_app (goodIn_of _ (by decide +kernel)) ggX0_placeInQueue_X0_waits
theorem dX0_placeInQueue_0 : decode cX0_placeInQueue 0 = .ok (.aload_n 0, 1) := by decide +kernel
theorem dX0_placeInQueue_1 : decode cX0_placeInQueue 1 = .ok (.iload_n 1, 1) := by decide +kernel
theorem dX0_placeInQueue_2 : decode cX0_placeInQueue 2 = .ok (.invokevirtual 87, 3) := by decide +kernel
theorem dX0_placeInQueue_5 : decode cX0_placeInQueue 5 = .ok (.ifCond .ne 6, 3) := by decide +kernel
theorem dX0_placeInQueue_8 : decode cX0_placeInQueue 8 = .ok (.bipush (-6), 2) := by decide +kernel
theorem dX0_placeInQueue_10 : decode cX0_placeInQueue 10 = .ok (.ireturn, 1) := by decide +kernel
theorem dX0_placeInQueue_11 : decode cX0_placeInQueue 11 = .ok (.iconst 0, 1) := by decide +kernel
theorem dX0_placeInQueue_12 : decode cX0_placeInQueue 12 = .ok (.istore_n 2, 1) := by decide +kernel
theorem dX0_placeInQueue_13 : decode cX0_placeInQueue 13 = .ok (.iconst 0, 1) := by decide +kernel
theorem dX0_placeInQueue_14 : decode cX0_placeInQueue 14 = .ok (.istore_n 3, 1) := by decide +kernel
theorem dX0_placeInQueue_15 : decode cX0_placeInQueue 15 = .ok (.iload_n 3, 1) := by decide +kernel
theorem dX0_placeInQueue_16 : decode cX0_placeInQueue 16 = .ok (.aload_n 0, 1) := by decide +kernel
theorem dX0_placeInQueue_17 : decode cX0_placeInQueue 17 = .ok (.getfield 53, 3) := by decide +kernel
theorem dX0_placeInQueue_20 : decode cX0_placeInQueue 20 = .ok (.if_icmp .ge 67, 3) := by decide +kernel
theorem dX0_placeInQueue_23 : decode cX0_placeInQueue 23 = .ok (.aload_n 0, 1) := by decide +kernel
theorem dX0_placeInQueue_24 : decode cX0_placeInQueue 24 = .ok (.getfield 25, 3) := by decide +kernel
theorem dX0_placeInQueue_27 : decode cX0_placeInQueue 27 = .ok (.iload_n 3, 1) := by decide +kernel
theorem dX0_placeInQueue_28 : decode cX0_placeInQueue 28 = .ok (.iaload, 1) := by decide +kernel
theorem dX0_placeInQueue_29 : decode cX0_placeInQueue 29 = .ok (.aload_n 0, 1) := by decide +kernel
theorem dX0_placeInQueue_30 : decode cX0_placeInQueue 30 = .ok (.getfield 25, 3) := by decide +kernel
theorem dX0_placeInQueue_33 : decode cX0_placeInQueue 33 = .ok (.iload_n 1, 1) := by decide +kernel
theorem dX0_placeInQueue_34 : decode cX0_placeInQueue 34 = .ok (.iaload, 1) := by decide +kernel
theorem dX0_placeInQueue_35 : decode cX0_placeInQueue 35 = .ok (.if_icmp .gt 23, 3) := by decide +kernel
theorem dX0_placeInQueue_38 : decode cX0_placeInQueue 38 = .ok (.aload_n 0, 1) := by decide +kernel
theorem dX0_placeInQueue_39 : decode cX0_placeInQueue 39 = .ok (.getfield 25, 3) := by decide +kernel
theorem dX0_placeInQueue_42 : decode cX0_placeInQueue 42 = .ok (.iload_n 3, 1) := by decide +kernel
theorem dX0_placeInQueue_43 : decode cX0_placeInQueue 43 = .ok (.iaload, 1) := by decide +kernel
theorem dX0_placeInQueue_44 : decode cX0_placeInQueue 44 = .ok (.aload_n 0, 1) := by decide +kernel
theorem dX0_placeInQueue_45 : decode cX0_placeInQueue 45 = .ok (.getfield 25, 3) := by decide +kernel
theorem dX0_placeInQueue_48 : decode cX0_placeInQueue 48 = .ok (.iload_n 1, 1) := by decide +kernel
theorem dX0_placeInQueue_49 : decode cX0_placeInQueue 49 = .ok (.iaload, 1) := by decide +kernel
theorem dX0_placeInQueue_50 : decode cX0_placeInQueue 50 = .ok (.if_icmp .ne 12, 3) := by decide +kernel
theorem dX0_placeInQueue_53 : decode cX0_placeInQueue 53 = .ok (.iload_n 3, 1) := by decide +kernel
theorem dX0_placeInQueue_54 : decode cX0_placeInQueue 54 = .ok (.iload_n 1, 1) := by decide +kernel
theorem dX0_placeInQueue_55 : decode cX0_placeInQueue 55 = .ok (.if_icmp .ge 7, 3) := by decide +kernel
theorem dX0_placeInQueue_58 : decode cX0_placeInQueue 58 = .ok (.iconst 1, 1) := by decide +kernel
theorem dX0_placeInQueue_59 : decode cX0_placeInQueue 59 = .ok (.goto 4, 3) := by decide +kernel
theorem dX0_placeInQueue_62 : decode cX0_placeInQueue 62 = .ok (.iconst 0, 1) := by decide +kernel
theorem dX0_placeInQueue_63 : decode cX0_placeInQueue 63 = .ok (.istore 4, 2) := by decide +kernel
theorem dX0_placeInQueue_65 : decode cX0_placeInQueue 65 = .ok (.iload 4, 2) := by decide +kernel
theorem dX0_placeInQueue_67 : decode cX0_placeInQueue 67 = .ok (.ifCond .eq 14, 3) := by decide +kernel
theorem dX0_placeInQueue_70 : decode cX0_placeInQueue 70 = .ok (.aload_n 0, 1) := by decide +kernel
theorem dX0_placeInQueue_71 : decode cX0_placeInQueue 71 = .ok (.iload_n 3, 1) := by decide +kernel
theorem dX0_placeInQueue_72 : decode cX0_placeInQueue 72 = .ok (.invokevirtual 87, 3) := by decide +kernel
theorem dX0_placeInQueue_75 : decode cX0_placeInQueue 75 = .ok (.ifCond .eq 6, 3) := by decide +kernel
theorem dX0_placeInQueue_78 : decode cX0_placeInQueue 78 = .ok (.iinc 2 1, 3) := by decide +kernel
theorem dX0_placeInQueue_81 : decode cX0_placeInQueue 81 = .ok (.iinc 3 1, 3) := by decide +kernel
theorem dX0_placeInQueue_84 : decode cX0_placeInQueue 84 = .ok (.goto (-69), 3) := by decide +kernel
theorem dX0_placeInQueue_87 : decode cX0_placeInQueue 87 = .ok (.iload_n 2, 1) := by decide +kernel
theorem dX0_placeInQueue_88 : decode cX0_placeInQueue 88 = .ok (.ireturn, 1) := by decide +kernel
set_option maxRecDepth 20000 in
theorem ggX0_waitingNames_X0_waits : GoodIn wsX0_waitingNames wsX0_waits := goodIn_r _ [6, 7, 8, 9, 5, 10, 11, 12, 13, 14, 15, 16, 17, 18, 19, 20, 21, 22, 23, 24, 25, 26, 27, 28, 29, 30, 31, 32] (by decide +kernel) (by decide +kernel)
set_option maxRecDepth 20000 in
theorem gX0_waitingNames_X0_waits : GoodIn wsX0_waitingNames (wsV RX0 87 RX0 yX0_waits wsX0_waits) := goodIn_app (goodIn_of _ (by decide +kernel)) ggX0_waitingNames_X0_waits
theorem dX0_waitingNames_0 : decode cX0_waitingNames 0 = .ok (.iconst 0, 1) := by decide +kernel
theorem dX0_waitingNames_1 : decode cX0_waitingNames 1 = .ok (.istore_n 1, 1) := by decide +kernel
theorem dX0_waitingNames_2 : decode cX0_waitingNames 2 = .ok (.iconst 0, 1) := by decide +kernel
theorem dX0_waitingNames_3 : decode cX0_waitingNames 3 = .ok (.istore_n 2, 1) := by decide +kernel
theorem dX0_waitingNames_4 : decode cX0_waitingNames 4 = .ok (.iload_n 2, 1) := by decide +kernel
theorem dX0_waitingNames_5 : decode cX0_waitingNames 5 = .ok (.aload_n 0, 1) := by decide +kernel
theorem dX0_waitingNames_6 : decode cX0_waitingNames 6 = .ok (.getfield 53, 3) := by decide +kernel
theorem dX0_waitingNames_9 : decode cX0_waitingNames 9 = .ok (.if_icmp .ge 20, 3) := by decide +kernel
theorem dX0_waitingNames_12 : decode cX0_waitingNames 12 = .ok (.aload_n 0, 1) := by decide +kernel
theorem dX0_waitingNames_13 : decode cX0_waitingNames 13 = .ok (.iload_n 2, 1) := by decide +kernel
theorem dX0_waitingNames_14 : decode cX0_waitingNames 14 = .ok (.invokevirtual 87, 3) := by decide +kernel
theorem dX0_waitingNames_17 : decode cX0_waitingNames 17 = .ok (.ifCond .eq 6, 3) := by decide +kernel
theorem dX0_waitingNames_20 : decode cX0_waitingNames 20 = .ok (.iinc 1 1, 3) := by decide +kernel
theorem dX0_waitingNames_23 : decode cX0_waitingNames 23 = .ok (.iinc 2 1, 3) := by decide +kernel
theorem dX0_waitingNames_26 : decode cX0_waitingNames 26 = .ok (.goto (-22), 3) := by decide +kernel
theorem dX0_waitingNames_29 : decode cX0_waitingNames 29 = .ok (.iload_n 1, 1) := by decide +kernel
theorem dX0_waitingNames_30 : decode cX0_waitingNames 30 = .ok (.ireturn, 1) := by decide +kernel
set_option maxRecDepth 20000 in
theorem ggX0_bearingCorners_X0_bearers : GoodIn wsX0_bearingCorners wsX0_bearers := goodIn_r _ [5, 6, 7, 8, 9, 10, 11, 12, 13, 14, 15, 16, 17, 18, 19, 20, 21, 22] (by decide +kernel) (by decide +kernel)
set_option maxRecDepth 20000 in
theorem gX0_bearingCorners_X0_bearers : GoodIn wsX0_bearingCorners (wsV RX0 81 RX0 yX0_bearers wsX0_bearers) := goodIn_app (goodIn_of _ (by decide +kernel)) ggX0_bearingCorners_X0_bearers
theorem dX0_bearingCorners_0 : decode cX0_bearingCorners 0 = .ok (.bipush 12, 2) := by decide +kernel
theorem dX0_bearingCorners_2 : decode cX0_bearingCorners 2 = .ok (.aload_n 0, 1) := by decide +kernel
theorem dX0_bearingCorners_3 : decode cX0_bearingCorners 3 = .ok (.bipush (-6), 2) := by decide +kernel
theorem dX0_bearingCorners_5 : decode cX0_bearingCorners 5 = .ok (.invokevirtual 81, 3) := by decide +kernel
theorem dX0_bearingCorners_8 : decode cX0_bearingCorners 8 = .ok (.isub, 1) := by decide +kernel
theorem dX0_bearingCorners_9 : decode cX0_bearingCorners 9 = .ok (.ireturn, 1) := by decide +kernel
set_option maxRecDepth 20000 in
theorem ggX0_punPairs_X0_isPun : GoodIn wsX0_punPairs wsX0_isPun := goodIn_r _ [6, 7, 8, 9, 10, 5, 11, 12, 13, 14, 15, 16, 17, 18, 19, 20, 21, 22, 23, 24, 25, 26, 27, 28] (by decide +kernel) (by decide +kernel)
set_option maxRecDepth 20000 in
theorem gX0_punPairs_X0_isPun : GoodIn wsX0_punPairs (wsV RX0 91 RX0 yX0_isPun wsX0_isPun) := goodIn_app (goodIn_of _ (by decide +kernel)) ggX0_punPairs_X0_isPun
theorem dX0_punPairs_0 : decode cX0_punPairs 0 = .ok (.iconst 0, 1) := by decide +kernel
theorem dX0_punPairs_1 : decode cX0_punPairs 1 = .ok (.istore_n 1, 1) := by decide +kernel
theorem dX0_punPairs_2 : decode cX0_punPairs 2 = .ok (.iconst 0, 1) := by decide +kernel
theorem dX0_punPairs_3 : decode cX0_punPairs 3 = .ok (.istore_n 2, 1) := by decide +kernel
theorem dX0_punPairs_4 : decode cX0_punPairs 4 = .ok (.iload_n 2, 1) := by decide +kernel
theorem dX0_punPairs_5 : decode cX0_punPairs 5 = .ok (.bipush 12, 2) := by decide +kernel
theorem dX0_punPairs_7 : decode cX0_punPairs 7 = .ok (.if_icmp .ge 47, 3) := by decide +kernel
theorem dX0_punPairs_10 : decode cX0_punPairs 10 = .ok (.iload_n 2, 1) := by decide +kernel
theorem dX0_punPairs_11 : decode cX0_punPairs 11 = .ok (.iconst 1, 1) := by decide +kernel
theorem dX0_punPairs_12 : decode cX0_punPairs 12 = .ok (.iadd, 1) := by decide +kernel
theorem dX0_punPairs_13 : decode cX0_punPairs 13 = .ok (.istore_n 3, 1) := by decide +kernel
theorem dX0_punPairs_14 : decode cX0_punPairs 14 = .ok (.iload_n 3, 1) := by decide +kernel
theorem dX0_punPairs_15 : decode cX0_punPairs 15 = .ok (.bipush 12, 2) := by decide +kernel
theorem dX0_punPairs_17 : decode cX0_punPairs 17 = .ok (.if_icmp .ge 31, 3) := by decide +kernel
theorem dX0_punPairs_20 : decode cX0_punPairs 20 = .ok (.aload_n 0, 1) := by decide +kernel
theorem dX0_punPairs_21 : decode cX0_punPairs 21 = .ok (.aload_n 0, 1) := by decide +kernel
theorem dX0_punPairs_22 : decode cX0_punPairs 22 = .ok (.getfield 35, 3) := by decide +kernel
theorem dX0_punPairs_25 : decode cX0_punPairs 25 = .ok (.iload_n 2, 1) := by decide +kernel
theorem dX0_punPairs_26 : decode cX0_punPairs 26 = .ok (.iaload, 1) := by decide +kernel
theorem dX0_punPairs_27 : decode cX0_punPairs 27 = .ok (.aload_n 0, 1) := by decide +kernel
theorem dX0_punPairs_28 : decode cX0_punPairs 28 = .ok (.getfield 35, 3) := by decide +kernel
theorem dX0_punPairs_31 : decode cX0_punPairs 31 = .ok (.iload_n 3, 1) := by decide +kernel
theorem dX0_punPairs_32 : decode cX0_punPairs 32 = .ok (.iaload, 1) := by decide +kernel
theorem dX0_punPairs_33 : decode cX0_punPairs 33 = .ok (.invokevirtual 91, 3) := by decide +kernel
theorem dX0_punPairs_36 : decode cX0_punPairs 36 = .ok (.ifCond .eq 6, 3) := by decide +kernel
theorem dX0_punPairs_39 : decode cX0_punPairs 39 = .ok (.iinc 1 1, 3) := by decide +kernel
theorem dX0_punPairs_42 : decode cX0_punPairs 42 = .ok (.iinc 3 1, 3) := by decide +kernel
theorem dX0_punPairs_45 : decode cX0_punPairs 45 = .ok (.goto (-31), 3) := by decide +kernel
theorem dX0_punPairs_48 : decode cX0_punPairs 48 = .ok (.iinc 2 1, 3) := by decide +kernel
theorem dX0_punPairs_51 : decode cX0_punPairs 51 = .ok (.goto (-47), 3) := by decide +kernel
theorem dX0_punPairs_54 : decode cX0_punPairs 54 = .ok (.iload_n 1, 1) := by decide +kernel
theorem dX0_punPairs_55 : decode cX0_punPairs 55 = .ok (.ireturn, 1) := by decide +kernel
set_option maxRecDepth 20000 in
theorem ggX0_isPun_X0_hasName : GoodIn wsX0_isPun wsX0_hasName := goodIn_r _ [6, 7, 8, 9, 10, 11, 12, 13, 14, 15, 16, 17, 18, 19, 20, 21, 22, 23] (by decide +kernel) (by decide +kernel)
set_option maxRecDepth 20000 in
theorem gX0_isPun_X0_hasName : GoodIn wsX0_isPun (wsV RX0 94 RX0 yX0_hasName wsX0_hasName) := goodIn_app (goodIn_of _ (by decide +kernel)) ggX0_isPun_X0_hasName
theorem dX0_isPun_0 : decode cX0_isPun 0 = .ok (.iload_n 1, 1) := by decide +kernel
theorem dX0_isPun_1 : decode cX0_isPun 1 = .ok (.iload_n 2, 1) := by decide +kernel
theorem dX0_isPun_2 : decode cX0_isPun 2 = .ok (.if_icmp .eq 38, 3) := by decide +kernel
theorem dX0_isPun_5 : decode cX0_isPun 5 = .ok (.aload_n 0, 1) := by decide +kernel
theorem dX0_isPun_6 : decode cX0_isPun 6 = .ok (.iload_n 1, 1) := by decide +kernel
theorem dX0_isPun_7 : decode cX0_isPun 7 = .ok (.invokevirtual 94, 3) := by decide +kernel
theorem dX0_isPun_10 : decode cX0_isPun 10 = .ok (.ifCond .eq 30, 3) := by decide +kernel
theorem dX0_isPun_13 : decode cX0_isPun 13 = .ok (.aload_n 0, 1) := by decide +kernel
theorem dX0_isPun_14 : decode cX0_isPun 14 = .ok (.iload_n 2, 1) := by decide +kernel
theorem dX0_isPun_15 : decode cX0_isPun 15 = .ok (.invokevirtual 94, 3) := by decide +kernel
theorem dX0_isPun_18 : decode cX0_isPun 18 = .ok (.ifCond .eq 22, 3) := by decide +kernel
theorem dX0_isPun_21 : decode cX0_isPun 21 = .ok (.aload_n 0, 1) := by decide +kernel
theorem dX0_isPun_22 : decode cX0_isPun 22 = .ok (.getfield 22, 3) := by decide +kernel
theorem dX0_isPun_25 : decode cX0_isPun 25 = .ok (.iload_n 1, 1) := by decide +kernel
theorem dX0_isPun_26 : decode cX0_isPun 26 = .ok (.iaload, 1) := by decide +kernel
theorem dX0_isPun_27 : decode cX0_isPun 27 = .ok (.aload_n 0, 1) := by decide +kernel
theorem dX0_isPun_28 : decode cX0_isPun 28 = .ok (.getfield 22, 3) := by decide +kernel
theorem dX0_isPun_31 : decode cX0_isPun 31 = .ok (.iload_n 2, 1) := by decide +kernel
theorem dX0_isPun_32 : decode cX0_isPun 32 = .ok (.iaload, 1) := by decide +kernel
theorem dX0_isPun_33 : decode cX0_isPun 33 = .ok (.if_icmp .ne 7, 3) := by decide +kernel
theorem dX0_isPun_36 : decode cX0_isPun 36 = .ok (.iconst 1, 1) := by decide +kernel
theorem dX0_isPun_37 : decode cX0_isPun 37 = .ok (.goto 4, 3) := by decide +kernel
theorem dX0_isPun_40 : decode cX0_isPun 40 = .ok (.iconst 0, 1) := by decide +kernel
theorem dX0_isPun_41 : decode cX0_isPun 41 = .ok (.ireturn, 1) := by decide +kernel
set_option maxRecDepth 20000 in
theorem ggX0_refusal_X0_bearers : GoodIn wsX0_refusal wsX0_bearers := goodIn_r _ [5, 6, 41, 42, 43, 44, 45, 46, 47, 48, 49, 50, 51, 52, 53, 54, 55, 56] (by decide +kernel) (by decide +kernel)
set_option maxRecDepth 20000 in
theorem gX0_refusal_X0_bearers : GoodIn wsX0_refusal (wsV RX0 81 RX0 yX0_bearers wsX0_bearers) := goodIn_app (goodIn_of _ (by decide +kernel)) ggX0_refusal_X0_bearers
set_option maxRecDepth 20000 in
theorem ggX0_refusal_X0_nearPuns : GoodIn wsX0_refusal wsX0_nearPuns := goodIn_r _ [10, 6, 11, 12, 13, 4, 14, 15, 16, 17, 18, 19, 20, 21, 22, 23, 24, 25, 26, 27, 28, 29, 30, 31, 32, 41, 42, 43, 44, 45, 46, 47, 48, 49, 50, 51, 52, 53, 54, 55, 56] (by decide +kernel) (by decide +kernel)
set_option maxRecDepth 20000 in
theorem gX0_refusal_X0_nearPuns : GoodIn wsX0_refusal (wsV RX0 97 RX0 yX0_nearPuns wsX0_nearPuns) := goodIn_app (goodIn_of _ (by decide +kernel)) ggX0_refusal_X0_nearPuns
set_option maxRecDepth 20000 in
theorem ggX0_refusal_X0_reason : GoodIn wsX0_refusal wsX0_reason := goodIn_r _ [36, 6, 37, 25, 38, 39, 40, 16, 17, 18, 4, 19, 20, 41, 42, 43, 44, 45, 46, 47, 48, 49, 50, 51, 52, 53, 54, 55, 56] (by decide +kernel) (by decide +kernel)
set_option maxRecDepth 20000 in
theorem gX0_refusal_X0_reason : GoodIn wsX0_refusal (wsV RX0 100 RX0 yX0_reason wsX0_reason) := goodIn_app (goodIn_of _ (by decide +kernel)) ggX0_refusal_X0_reason
theorem dX0_refusal_0 : decode cX0_refusal 0 = .ok (.aload_n 0, 1) := by decide +kernel
theorem dX0_refusal_1 : decode cX0_refusal 1 = .ok (.iload_n 1, 1) := by decide +kernel
theorem dX0_refusal_2 : decode cX0_refusal 2 = .ok (.iload_n 2, 1) := by decide +kernel
theorem dX0_refusal_3 : decode cX0_refusal 3 = .ok (.aload_n 0, 1) := by decide +kernel
theorem dX0_refusal_4 : decode cX0_refusal 4 = .ok (.iload_n 1, 1) := by decide +kernel
theorem dX0_refusal_5 : decode cX0_refusal 5 = .ok (.invokevirtual 81, 3) := by decide +kernel
theorem dX0_refusal_8 : decode cX0_refusal 8 = .ok (.aload_n 0, 1) := by decide +kernel
theorem dX0_refusal_9 : decode cX0_refusal 9 = .ok (.iload_n 1, 1) := by decide +kernel
theorem dX0_refusal_10 : decode cX0_refusal 10 = .ok (.invokevirtual 97, 3) := by decide +kernel
theorem dX0_refusal_13 : decode cX0_refusal 13 = .ok (.invokevirtual 100, 3) := by decide +kernel
theorem dX0_refusal_16 : decode cX0_refusal 16 = .ok (.ireturn, 1) := by decide +kernel
set_option maxRecDepth 20000 in
theorem ggX0_lowestFree_X0_bearers : GoodIn wsX0_lowestFree wsX0_bearers := goodIn_r _ [5, 6, 41, 42, 43, 44, 45, 46, 47, 48, 49, 50, 51, 52, 53, 54, 55, 56] (by decide +kernel) (by decide +kernel)
set_option maxRecDepth 20000 in
theorem gX0_lowestFree_X0_bearers : GoodIn wsX0_lowestFree (wsV RX0 81 RX0 yX0_bearers wsX0_bearers) := goodIn_app (goodIn_of _ (by decide +kernel)) ggX0_lowestFree_X0_bearers
set_option maxRecDepth 20000 in
theorem ggX0_lowestFree_X0_nearPuns : GoodIn wsX0_lowestFree wsX0_nearPuns := goodIn_r _ [10, 6, 11, 12, 13, 4, 14, 15, 16, 17, 18, 19, 20, 21, 22, 23, 24, 25, 26, 27, 28, 29, 30, 31, 32, 41, 42, 43, 44, 45, 46, 47, 48, 49, 50, 51, 52, 53, 54, 55, 56] (by decide +kernel) (by decide +kernel)
set_option maxRecDepth 20000 in
theorem gX0_lowestFree_X0_nearPuns : GoodIn wsX0_lowestFree (wsV RX0 97 RX0 yX0_nearPuns wsX0_nearPuns) := goodIn_app (goodIn_of _ (by decide +kernel)) ggX0_lowestFree_X0_nearPuns
set_option maxRecDepth 20000 in
theorem ggX0_lowestFree_X0_reason : GoodIn wsX0_lowestFree wsX0_reason := goodIn_r _ [36, 6, 37, 25, 38, 39, 40, 16, 17, 18, 4, 19, 20, 41, 42, 43, 44, 45, 46, 47, 48, 49, 50, 51, 52, 53, 54, 55, 56] (by decide +kernel) (by decide +kernel)
set_option maxRecDepth 20000 in
theorem gX0_lowestFree_X0_reason : GoodIn wsX0_lowestFree (wsV RX0 100 RX0 yX0_reason wsX0_reason) := goodIn_app (goodIn_of _ (by decide +kernel)) ggX0_lowestFree_X0_reason
theorem dX0_lowestFree_0 : decode cX0_lowestFree 0 = .ok (.aload_n 0, 1) := by decide +kernel
theorem dX0_lowestFree_1 : decode cX0_lowestFree 1 = .ok (.iload_n 1, 1) := by decide +kernel
theorem dX0_lowestFree_2 : decode cX0_lowestFree 2 = .ok (.invokevirtual 81, 3) := by decide +kernel
theorem dX0_lowestFree_5 : decode cX0_lowestFree 5 = .ok (.istore_n 2, 1) := by decide +kernel
theorem dX0_lowestFree_6 : decode cX0_lowestFree 6 = .ok (.aload_n 0, 1) := by decide +kernel
theorem dX0_lowestFree_7 : decode cX0_lowestFree 7 = .ok (.iload_n 1, 1) := by decide +kernel
theorem dX0_lowestFree_8 : decode cX0_lowestFree 8 = .ok (.invokevirtual 97, 3) := by decide +kernel
theorem dX0_lowestFree_11 : decode cX0_lowestFree 11 = .ok (.istore_n 3, 1) := by decide +kernel
theorem dX0_lowestFree_12 : decode cX0_lowestFree 12 = .ok (.iconst 0, 1) := by decide +kernel
theorem dX0_lowestFree_13 : decode cX0_lowestFree 13 = .ok (.istore 4, 2) := by decide +kernel
theorem dX0_lowestFree_15 : decode cX0_lowestFree 15 = .ok (.iload 4, 2) := by decide +kernel
theorem dX0_lowestFree_17 : decode cX0_lowestFree 17 = .ok (.bipush 12, 2) := by decide +kernel
theorem dX0_lowestFree_19 : decode cX0_lowestFree 19 = .ok (.if_icmp .ge 24, 3) := by decide +kernel
theorem dX0_lowestFree_22 : decode cX0_lowestFree 22 = .ok (.aload_n 0, 1) := by decide +kernel
theorem dX0_lowestFree_23 : decode cX0_lowestFree 23 = .ok (.iload_n 1, 1) := by decide +kernel
theorem dX0_lowestFree_24 : decode cX0_lowestFree 24 = .ok (.iload 4, 2) := by decide +kernel
theorem dX0_lowestFree_26 : decode cX0_lowestFree 26 = .ok (.iload_n 2, 1) := by decide +kernel
theorem dX0_lowestFree_27 : decode cX0_lowestFree 27 = .ok (.iload_n 3, 1) := by decide +kernel
theorem dX0_lowestFree_28 : decode cX0_lowestFree 28 = .ok (.invokevirtual 100, 3) := by decide +kernel
theorem dX0_lowestFree_31 : decode cX0_lowestFree 31 = .ok (.ifCond .ne 6, 3) := by decide +kernel
theorem dX0_lowestFree_34 : decode cX0_lowestFree 34 = .ok (.iload 4, 2) := by decide +kernel
theorem dX0_lowestFree_36 : decode cX0_lowestFree 36 = .ok (.ireturn, 1) := by decide +kernel
theorem dX0_lowestFree_37 : decode cX0_lowestFree 37 = .ok (.iinc 4 1, 3) := by decide +kernel
theorem dX0_lowestFree_40 : decode cX0_lowestFree 40 = .ok (.goto (-25), 3) := by decide +kernel
theorem dX0_lowestFree_43 : decode cX0_lowestFree 43 = .ok (.bipush (-6), 2) := by decide +kernel
theorem dX0_lowestFree_45 : decode cX0_lowestFree 45 = .ok (.ireturn, 1) := by decide +kernel
set_option maxRecDepth 20000 in
theorem ggX0_reason_X0_hasName : GoodIn wsX0_reason wsX0_hasName := goodIn_r _ [11, 12, 13, 14, 15, 16, 17, 18, 19, 20, 21, 22, 23, 24, 25, 26, 27, 28] (by decide +kernel) (by decide +kernel)
set_option maxRecDepth 20000 in
theorem gX0_reason_X0_hasName : GoodIn wsX0_reason (wsV RX0 94 RX0 yX0_hasName wsX0_hasName) := goodIn_app (goodIn_of _ (by decide +kernel)) ggX0_reason_X0_hasName
theorem dX0_reason_0 : decode cX0_reason 0 = .ok (.aload_n 0, 1) := by decide +kernel
theorem dX0_reason_1 : decode cX0_reason 1 = .ok (.getfield 35, 3) := by decide +kernel
theorem dX0_reason_4 : decode cX0_reason 4 = .ok (.iload_n 2, 1) := by decide +kernel
theorem dX0_reason_5 : decode cX0_reason 5 = .ok (.iaload, 1) := by decide +kernel
theorem dX0_reason_6 : decode cX0_reason 6 = .ok (.istore 5, 2) := by decide +kernel
theorem dX0_reason_8 : decode cX0_reason 8 = .ok (.aload_n 0, 1) := by decide +kernel
theorem dX0_reason_9 : decode cX0_reason 9 = .ok (.getfield 28, 3) := by decide +kernel
theorem dX0_reason_12 : decode cX0_reason 12 = .ok (.iload_n 1, 1) := by decide +kernel
theorem dX0_reason_13 : decode cX0_reason 13 = .ok (.baload, 1) := by decide +kernel
theorem dX0_reason_14 : decode cX0_reason 14 = .ok (.ifCond .eq 5, 3) := by decide +kernel
theorem dX0_reason_17 : decode cX0_reason 17 = .ok (.iconst 1, 1) := by decide +kernel
theorem dX0_reason_18 : decode cX0_reason 18 = .ok (.ireturn, 1) := by decide +kernel
theorem dX0_reason_19 : decode cX0_reason 19 = .ok (.iload 5, 2) := by decide +kernel
theorem dX0_reason_21 : decode cX0_reason 21 = .ok (.iload_n 1, 1) := by decide +kernel
theorem dX0_reason_22 : decode cX0_reason 22 = .ok (.if_icmp .ne 5, 3) := by decide +kernel
theorem dX0_reason_25 : decode cX0_reason 25 = .ok (.iconst 2, 1) := by decide +kernel
theorem dX0_reason_26 : decode cX0_reason 26 = .ok (.ireturn, 1) := by decide +kernel
theorem dX0_reason_27 : decode cX0_reason 27 = .ok (.iload_n 3, 1) := by decide +kernel
theorem dX0_reason_28 : decode cX0_reason 28 = .ok (.aload_n 0, 1) := by decide +kernel
theorem dX0_reason_29 : decode cX0_reason 29 = .ok (.getfield 9, 3) := by decide +kernel
theorem dX0_reason_32 : decode cX0_reason 32 = .ok (.iconst 1, 1) := by decide +kernel
theorem dX0_reason_33 : decode cX0_reason 33 = .ok (.iaload, 1) := by decide +kernel
theorem dX0_reason_34 : decode cX0_reason 34 = .ok (.if_icmp .lt 5, 3) := by decide +kernel
theorem dX0_reason_37 : decode cX0_reason 37 = .ok (.iconst 3, 1) := by decide +kernel
theorem dX0_reason_38 : decode cX0_reason 38 = .ok (.ireturn, 1) := by decide +kernel
theorem dX0_reason_39 : decode cX0_reason 39 = .ok (.iload 4, 2) := by decide +kernel
theorem dX0_reason_41 : decode cX0_reason 41 = .ok (.iconst 1, 1) := by decide +kernel
theorem dX0_reason_42 : decode cX0_reason 42 = .ok (.iload_n 2, 1) := by decide +kernel
theorem dX0_reason_43 : decode cX0_reason 43 = .ok (.ishl, 1) := by decide +kernel
theorem dX0_reason_44 : decode cX0_reason 44 = .ok (.iand, 1) := by decide +kernel
theorem dX0_reason_45 : decode cX0_reason 45 = .ok (.ifCond .eq 5, 3) := by decide +kernel
theorem dX0_reason_48 : decode cX0_reason 48 = .ok (.iconst 4, 1) := by decide +kernel
theorem dX0_reason_49 : decode cX0_reason 49 = .ok (.ireturn, 1) := by decide +kernel
theorem dX0_reason_50 : decode cX0_reason 50 = .ok (.aload_n 0, 1) := by decide +kernel
theorem dX0_reason_51 : decode cX0_reason 51 = .ok (.iload 5, 2) := by decide +kernel
theorem dX0_reason_53 : decode cX0_reason 53 = .ok (.invokevirtual 94, 3) := by decide +kernel
theorem dX0_reason_56 : decode cX0_reason 56 = .ok (.ifCond .eq 21, 3) := by decide +kernel
theorem dX0_reason_59 : decode cX0_reason 59 = .ok (.aload_n 0, 1) := by decide +kernel
theorem dX0_reason_60 : decode cX0_reason 60 = .ok (.getfield 25, 3) := by decide +kernel
theorem dX0_reason_63 : decode cX0_reason 63 = .ok (.iload 5, 2) := by decide +kernel
theorem dX0_reason_65 : decode cX0_reason 65 = .ok (.iaload, 1) := by decide +kernel
theorem dX0_reason_66 : decode cX0_reason 66 = .ok (.aload_n 0, 1) := by decide +kernel
theorem dX0_reason_67 : decode cX0_reason 67 = .ok (.getfield 25, 3) := by decide +kernel
theorem dX0_reason_70 : decode cX0_reason 70 = .ok (.iload_n 1, 1) := by decide +kernel
theorem dX0_reason_71 : decode cX0_reason 71 = .ok (.iaload, 1) := by decide +kernel
theorem dX0_reason_72 : decode cX0_reason 72 = .ok (.if_icmp .le 5, 3) := by decide +kernel
theorem dX0_reason_75 : decode cX0_reason 75 = .ok (.iconst 5, 1) := by decide +kernel
theorem dX0_reason_76 : decode cX0_reason 76 = .ok (.ireturn, 1) := by decide +kernel
theorem dX0_reason_77 : decode cX0_reason 77 = .ok (.aload_n 0, 1) := by decide +kernel
theorem dX0_reason_78 : decode cX0_reason 78 = .ok (.iload 5, 2) := by decide +kernel
theorem dX0_reason_80 : decode cX0_reason 80 = .ok (.invokevirtual 94, 3) := by decide +kernel
theorem dX0_reason_83 : decode cX0_reason 83 = .ok (.ifCond .eq 26, 3) := by decide +kernel
theorem dX0_reason_86 : decode cX0_reason 86 = .ok (.aload_n 0, 1) := by decide +kernel
theorem dX0_reason_87 : decode cX0_reason 87 = .ok (.getfield 104, 3) := by decide +kernel
theorem dX0_reason_90 : decode cX0_reason 90 = .ok (.aload_n 0, 1) := by decide +kernel
theorem dX0_reason_91 : decode cX0_reason 91 = .ok (.getfield 44, 3) := by decide +kernel
theorem dX0_reason_94 : decode cX0_reason 94 = .ok (.iload_n 2, 1) := by decide +kernel
theorem dX0_reason_95 : decode cX0_reason 95 = .ok (.iaload, 1) := by decide +kernel
theorem dX0_reason_96 : decode cX0_reason 96 = .ok (.isub, 1) := by decide +kernel
theorem dX0_reason_97 : decode cX0_reason 97 = .ok (.aload_n 0, 1) := by decide +kernel
theorem dX0_reason_98 : decode cX0_reason 98 = .ok (.getfield 9, 3) := by decide +kernel
theorem dX0_reason_101 : decode cX0_reason 101 = .ok (.iconst 3, 1) := by decide +kernel
theorem dX0_reason_102 : decode cX0_reason 102 = .ok (.iaload, 1) := by decide +kernel
theorem dX0_reason_103 : decode cX0_reason 103 = .ok (.if_icmp .ge 6, 3) := by decide +kernel
theorem dX0_reason_106 : decode cX0_reason 106 = .ok (.bipush 6, 2) := by decide +kernel
theorem dX0_reason_108 : decode cX0_reason 108 = .ok (.ireturn, 1) := by decide +kernel
theorem dX0_reason_109 : decode cX0_reason 109 = .ok (.iconst 0, 1) := by decide +kernel
theorem dX0_reason_110 : decode cX0_reason 110 = .ok (.ireturn, 1) := by decide +kernel
set_option maxRecDepth 20000 in
theorem ggX0_nearPuns_X0_isPun : GoodIn wsX0_nearPuns wsX0_isPun := goodIn_r _ [6, 7, 8, 9, 10, 5, 11, 12, 25, 26, 27, 28, 29, 30, 31, 32, 33, 34, 35, 36, 37, 38, 39, 40] (by decide +kernel) (by decide +kernel)
set_option maxRecDepth 20000 in
theorem gX0_nearPuns_X0_isPun : GoodIn wsX0_nearPuns (wsV RX0 91 RX0 yX0_isPun wsX0_isPun) := goodIn_app (goodIn_of _ (by decide +kernel)) ggX0_nearPuns_X0_isPun
set_option maxRecDepth 20000 in
theorem ggX0_nearPuns_X0_around : GoodIn wsX0_nearPuns wsX0_around := goodIn_r _ [16, 17, 18, 19, 20, 21, 22, 23, 24, 25, 26, 27, 28, 29, 30, 31, 32, 33, 34, 35, 36, 37, 38, 39, 40] (by decide +kernel) (by decide +kernel)
set_option maxRecDepth 20000 in
theorem gX0_nearPuns_X0_around : GoodIn wsX0_nearPuns (wsV RX0 107 RX0 yX0_around wsX0_around) := goodIn_app (goodIn_of _ (by decide +kernel)) ggX0_nearPuns_X0_around
theorem dX0_nearPuns_0 : decode cX0_nearPuns 0 = .ok (.iconst 0, 1) := by decide +kernel
theorem dX0_nearPuns_1 : decode cX0_nearPuns 1 = .ok (.istore_n 2, 1) := by decide +kernel
theorem dX0_nearPuns_2 : decode cX0_nearPuns 2 = .ok (.iconst 0, 1) := by decide +kernel
theorem dX0_nearPuns_3 : decode cX0_nearPuns 3 = .ok (.istore_n 3, 1) := by decide +kernel
theorem dX0_nearPuns_4 : decode cX0_nearPuns 4 = .ok (.iload_n 3, 1) := by decide +kernel
theorem dX0_nearPuns_5 : decode cX0_nearPuns 5 = .ok (.bipush 12, 2) := by decide +kernel
theorem dX0_nearPuns_7 : decode cX0_nearPuns 7 = .ok (.if_icmp .ge 31, 3) := by decide +kernel
theorem dX0_nearPuns_10 : decode cX0_nearPuns 10 = .ok (.aload_n 0, 1) := by decide +kernel
theorem dX0_nearPuns_11 : decode cX0_nearPuns 11 = .ok (.iload_n 1, 1) := by decide +kernel
theorem dX0_nearPuns_12 : decode cX0_nearPuns 12 = .ok (.aload_n 0, 1) := by decide +kernel
theorem dX0_nearPuns_13 : decode cX0_nearPuns 13 = .ok (.getfield 35, 3) := by decide +kernel
theorem dX0_nearPuns_16 : decode cX0_nearPuns 16 = .ok (.iload_n 3, 1) := by decide +kernel
theorem dX0_nearPuns_17 : decode cX0_nearPuns 17 = .ok (.iaload, 1) := by decide +kernel
theorem dX0_nearPuns_18 : decode cX0_nearPuns 18 = .ok (.invokevirtual 91, 3) := by decide +kernel
theorem dX0_nearPuns_21 : decode cX0_nearPuns 21 = .ok (.ifCond .eq 11, 3) := by decide +kernel
theorem dX0_nearPuns_24 : decode cX0_nearPuns 24 = .ok (.iload_n 2, 1) := by decide +kernel
theorem dX0_nearPuns_25 : decode cX0_nearPuns 25 = .ok (.aload_n 0, 1) := by decide +kernel
theorem dX0_nearPuns_26 : decode cX0_nearPuns 26 = .ok (.iload_n 3, 1) := by decide +kernel
theorem dX0_nearPuns_27 : decode cX0_nearPuns 27 = .ok (.invokevirtual 107, 3) := by decide +kernel
theorem dX0_nearPuns_30 : decode cX0_nearPuns 30 = .ok (.ior, 1) := by decide +kernel
theorem dX0_nearPuns_31 : decode cX0_nearPuns 31 = .ok (.istore_n 2, 1) := by decide +kernel
theorem dX0_nearPuns_32 : decode cX0_nearPuns 32 = .ok (.iinc 3 1, 3) := by decide +kernel
theorem dX0_nearPuns_35 : decode cX0_nearPuns 35 = .ok (.goto (-31), 3) := by decide +kernel
theorem dX0_nearPuns_38 : decode cX0_nearPuns 38 = .ok (.iload_n 2, 1) := by decide +kernel
theorem dX0_nearPuns_39 : decode cX0_nearPuns 39 = .ok (.ireturn, 1) := by decide +kernel
theorem dX0_around_0 : decode cX0_around 0 = .ok (.iconst 0, 1) := by decide +kernel
theorem dX0_around_1 : decode cX0_around 1 = .ok (.iload_n 1, 1) := by decide +kernel
theorem dX0_around_2 : decode cX0_around 2 = .ok (.aload_n 0, 1) := by decide +kernel
theorem dX0_around_3 : decode cX0_around 3 = .ok (.getfield 9, 3) := by decide +kernel
theorem dX0_around_6 : decode cX0_around 6 = .ok (.iconst 0, 1) := by decide +kernel
theorem dX0_around_7 : decode cX0_around 7 = .ok (.iaload, 1) := by decide +kernel
theorem dX0_around_8 : decode cX0_around 8 = .ok (.isub, 1) := by decide +kernel
theorem dX0_around_9 : decode cX0_around 9 = .ok (.invokestatic 110, 3) := by decide +kernel
theorem dX0_around_12 : decode cX0_around 12 = .ok (.istore_n 2, 1) := by decide +kernel
theorem dX0_around_13 : decode cX0_around 13 = .ok (.bipush 11, 2) := by decide +kernel
theorem dX0_around_15 : decode cX0_around 15 = .ok (.iload_n 1, 1) := by decide +kernel
theorem dX0_around_16 : decode cX0_around 16 = .ok (.aload_n 0, 1) := by decide +kernel
theorem dX0_around_17 : decode cX0_around 17 = .ok (.getfield 9, 3) := by decide +kernel
theorem dX0_around_20 : decode cX0_around 20 = .ok (.iconst 0, 1) := by decide +kernel
theorem dX0_around_21 : decode cX0_around 21 = .ok (.iaload, 1) := by decide +kernel
theorem dX0_around_22 : decode cX0_around 22 = .ok (.iadd, 1) := by decide +kernel
theorem dX0_around_23 : decode cX0_around 23 = .ok (.invokestatic 115, 3) := by decide +kernel
theorem dX0_around_26 : decode cX0_around 26 = .ok (.istore_n 3, 1) := by decide +kernel
theorem dX0_around_27 : decode cX0_around 27 = .ok (.iconst 0, 1) := by decide +kernel
theorem dX0_around_28 : decode cX0_around 28 = .ok (.istore 4, 2) := by decide +kernel
theorem dX0_around_30 : decode cX0_around 30 = .ok (.iload_n 2, 1) := by decide +kernel
theorem dX0_around_31 : decode cX0_around 31 = .ok (.istore 5, 2) := by decide +kernel
theorem dX0_around_33 : decode cX0_around 33 = .ok (.iload 5, 2) := by decide +kernel
theorem dX0_around_35 : decode cX0_around 35 = .ok (.iload_n 3, 1) := by decide +kernel
theorem dX0_around_36 : decode cX0_around 36 = .ok (.if_icmp .gt 24, 3) := by decide +kernel
theorem dX0_around_39 : decode cX0_around 39 = .ok (.iload 5, 2) := by decide +kernel
theorem dX0_around_41 : decode cX0_around 41 = .ok (.iload_n 1, 1) := by decide +kernel
theorem dX0_around_42 : decode cX0_around 42 = .ok (.if_icmp .eq 12, 3) := by decide +kernel
theorem dX0_around_45 : decode cX0_around 45 = .ok (.iload 4, 2) := by decide +kernel
theorem dX0_around_47 : decode cX0_around 47 = .ok (.iconst 1, 1) := by decide +kernel
theorem dX0_around_48 : decode cX0_around 48 = .ok (.iload 5, 2) := by decide +kernel
theorem dX0_around_50 : decode cX0_around 50 = .ok (.ishl, 1) := by decide +kernel
theorem dX0_around_51 : decode cX0_around 51 = .ok (.ior, 1) := by decide +kernel
theorem dX0_around_52 : decode cX0_around 52 = .ok (.istore 4, 2) := by decide +kernel
theorem dX0_around_54 : decode cX0_around 54 = .ok (.iinc 5 1, 3) := by decide +kernel
theorem dX0_around_57 : decode cX0_around 57 = .ok (.goto (-24), 3) := by decide +kernel
theorem dX0_around_60 : decode cX0_around 60 = .ok (.iload 4, 2) := by decide +kernel
theorem dX0_around_62 : decode cX0_around 62 = .ok (.ireturn, 1) := by decide +kernel
theorem dX0_place_0 : decode cX0_place 0 = .ok (.aload_n 0, 1) := by decide +kernel
theorem dX0_place_1 : decode cX0_place 1 = .ok (.getfield 35, 3) := by decide +kernel
theorem dX0_place_4 : decode cX0_place 4 = .ok (.iload_n 2, 1) := by decide +kernel
theorem dX0_place_5 : decode cX0_place 5 = .ok (.iload_n 1, 1) := by decide +kernel
theorem dX0_place_6 : decode cX0_place 6 = .ok (.iastore, 1) := by decide +kernel
theorem dX0_place_7 : decode cX0_place 7 = .ok (.aload_n 0, 1) := by decide +kernel
theorem dX0_place_8 : decode cX0_place 8 = .ok (.getfield 44, 3) := by decide +kernel
theorem dX0_place_11 : decode cX0_place 11 = .ok (.iload_n 2, 1) := by decide +kernel
theorem dX0_place_12 : decode cX0_place 12 = .ok (.aload_n 0, 1) := by decide +kernel
theorem dX0_place_13 : decode cX0_place 13 = .ok (.getfield 104, 3) := by decide +kernel
theorem dX0_place_16 : decode cX0_place 16 = .ok (.iastore, 1) := by decide +kernel
theorem dX0_place_17 : decode cX0_place 17 = .ok (.aload_n 0, 1) := by decide +kernel
theorem dX0_place_18 : decode cX0_place 18 = .ok (.getfield 47, 3) := by decide +kernel
theorem dX0_place_21 : decode cX0_place 21 = .ok (.iload_n 2, 1) := by decide +kernel
theorem dX0_place_22 : decode cX0_place 22 = .ok (.dup2, 1) := by decide +kernel
theorem dX0_place_23 : decode cX0_place 23 = .ok (.iaload, 1) := by decide +kernel
theorem dX0_place_24 : decode cX0_place 24 = .ok (.iconst 1, 1) := by decide +kernel
theorem dX0_place_25 : decode cX0_place 25 = .ok (.iadd, 1) := by decide +kernel
theorem dX0_place_26 : decode cX0_place 26 = .ok (.iastore, 1) := by decide +kernel
theorem dX0_place_27 : decode cX0_place 27 = .ok (.aload_n 0, 1) := by decide +kernel
theorem dX0_place_28 : decode cX0_place 28 = .ok (.getfield 32, 3) := by decide +kernel
theorem dX0_place_31 : decode cX0_place 31 = .ok (.iload_n 1, 1) := by decide +kernel
theorem dX0_place_32 : decode cX0_place 32 = .ok (.dup2, 1) := by decide +kernel
theorem dX0_place_33 : decode cX0_place 33 = .ok (.iaload, 1) := by decide +kernel
theorem dX0_place_34 : decode cX0_place 34 = .ok (.iconst 1, 1) := by decide +kernel
theorem dX0_place_35 : decode cX0_place 35 = .ok (.iadd, 1) := by decide +kernel
theorem dX0_place_36 : decode cX0_place 36 = .ok (.iastore, 1) := by decide +kernel
theorem dX0_place_37 : decode cX0_place 37 = .ok (.aload_n 0, 1) := by decide +kernel
theorem dX0_place_38 : decode cX0_place 38 = .ok (.getfield 38, 3) := by decide +kernel
theorem dX0_place_41 : decode cX0_place 41 = .ok (.iload_n 2, 1) := by decide +kernel
theorem dX0_place_42 : decode cX0_place 42 = .ok (.dup2, 1) := by decide +kernel
theorem dX0_place_43 : decode cX0_place 43 = .ok (.iaload, 1) := by decide +kernel
theorem dX0_place_44 : decode cX0_place 44 = .ok (.iconst 2, 1) := by decide +kernel
theorem dX0_place_45 : decode cX0_place 45 = .ok (.iadd, 1) := by decide +kernel
theorem dX0_place_46 : decode cX0_place 46 = .ok (.iastore, 1) := by decide +kernel
theorem dX0_place_47 : decode cX0_place 47 = .ok (.iload_n 2, 1) := by decide +kernel
theorem dX0_place_48 : decode cX0_place 48 = .ok (.ifCond .le 15, 3) := by decide +kernel
theorem dX0_place_51 : decode cX0_place 51 = .ok (.aload_n 0, 1) := by decide +kernel
theorem dX0_place_52 : decode cX0_place 52 = .ok (.getfield 38, 3) := by decide +kernel
theorem dX0_place_55 : decode cX0_place 55 = .ok (.iload_n 2, 1) := by decide +kernel
theorem dX0_place_56 : decode cX0_place 56 = .ok (.iconst 1, 1) := by decide +kernel
theorem dX0_place_57 : decode cX0_place 57 = .ok (.isub, 1) := by decide +kernel
theorem dX0_place_58 : decode cX0_place 58 = .ok (.dup2, 1) := by decide +kernel
theorem dX0_place_59 : decode cX0_place 59 = .ok (.iaload, 1) := by decide +kernel
theorem dX0_place_60 : decode cX0_place 60 = .ok (.iconst 1, 1) := by decide +kernel
theorem dX0_place_61 : decode cX0_place 61 = .ok (.iadd, 1) := by decide +kernel
theorem dX0_place_62 : decode cX0_place 62 = .ok (.iastore, 1) := by decide +kernel
theorem dX0_place_63 : decode cX0_place 63 = .ok (.iload_n 2, 1) := by decide +kernel
theorem dX0_place_64 : decode cX0_place 64 = .ok (.bipush 11, 2) := by decide +kernel
theorem dX0_place_66 : decode cX0_place 66 = .ok (.if_icmp .ge 15, 3) := by decide +kernel
theorem dX0_place_69 : decode cX0_place 69 = .ok (.aload_n 0, 1) := by decide +kernel
theorem dX0_place_70 : decode cX0_place 70 = .ok (.getfield 38, 3) := by decide +kernel
theorem dX0_place_73 : decode cX0_place 73 = .ok (.iload_n 2, 1) := by decide +kernel
theorem dX0_place_74 : decode cX0_place 74 = .ok (.iconst 1, 1) := by decide +kernel
theorem dX0_place_75 : decode cX0_place 75 = .ok (.iadd, 1) := by decide +kernel
theorem dX0_place_76 : decode cX0_place 76 = .ok (.dup2, 1) := by decide +kernel
theorem dX0_place_77 : decode cX0_place 77 = .ok (.iaload, 1) := by decide +kernel
theorem dX0_place_78 : decode cX0_place 78 = .ok (.iconst 1, 1) := by decide +kernel
theorem dX0_place_79 : decode cX0_place 79 = .ok (.iadd, 1) := by decide +kernel
theorem dX0_place_80 : decode cX0_place 80 = .ok (.iastore, 1) := by decide +kernel
theorem dX0_place_81 : decode cX0_place 81 = .ok (.return_, 1) := by decide +kernel
theorem dX0_bare_0 : decode cX0_bare 0 = .ok (.aload_n 0, 1) := by decide +kernel
theorem dX0_bare_1 : decode cX0_bare 1 = .ok (.getfield 35, 3) := by decide +kernel
theorem dX0_bare_4 : decode cX0_bare 4 = .ok (.iload_n 1, 1) := by decide +kernel
theorem dX0_bare_5 : decode cX0_bare 5 = .ok (.bipush (-6), 2) := by decide +kernel
theorem dX0_bare_7 : decode cX0_bare 7 = .ok (.iastore, 1) := by decide +kernel
theorem dX0_bare_8 : decode cX0_bare 8 = .ok (.return_, 1) := by decide +kernel
set_option maxRecDepth 20000 in
theorem ggX0_drop_X0_bearers : GoodIn wsX0_drop wsX0_bearers := goodIn_r _ [7, 2, 12, 13, 14, 15, 16, 17, 18, 19, 20, 21, 22, 23, 24, 25, 26, 27] (by decide +kernel) (by decide +kernel)
set_option maxRecDepth 20000 in
theorem gX0_drop_X0_bearers : GoodIn wsX0_drop (wsV RX0 81 RX0 yX0_bearers wsX0_bearers) := goodIn_app (goodIn_of _ (by decide +kernel)) ggX0_drop_X0_bearers
set_option maxRecDepth 20000 in
theorem ggX0_drop_X0_bare : GoodIn wsX0_drop wsX0_bare := goodIn_r _ [11, 2, 12, 13, 14, 15, 16, 17, 18, 19, 20, 21, 22, 23, 24, 25, 26, 27] (by decide +kernel) (by decide +kernel)
set_option maxRecDepth 20000 in
theorem gX0_drop_X0_bare : GoodIn wsX0_drop (wsV RX0 118 RX0 yX0_bare wsX0_bare) := goodIn_app (goodIn_of _ (by decide +kernel)) ggX0_drop_X0_bare
theorem dX0_drop_0 : decode cX0_drop 0 = .ok (.aload_n 0, 1) := by decide +kernel
theorem dX0_drop_1 : decode cX0_drop 1 = .ok (.iload_n 1, 1) := by decide +kernel
theorem dX0_drop_2 : decode cX0_drop 2 = .ok (.invokevirtual 81, 3) := by decide +kernel
theorem dX0_drop_5 : decode cX0_drop 5 = .ok (.istore_n 2, 1) := by decide +kernel
theorem dX0_drop_6 : decode cX0_drop 6 = .ok (.aload_n 0, 1) := by decide +kernel
theorem dX0_drop_7 : decode cX0_drop 7 = .ok (.getfield 28, 3) := by decide +kernel
theorem dX0_drop_10 : decode cX0_drop 10 = .ok (.iload_n 1, 1) := by decide +kernel
theorem dX0_drop_11 : decode cX0_drop 11 = .ok (.iconst 1, 1) := by decide +kernel
theorem dX0_drop_12 : decode cX0_drop 12 = .ok (.bastore, 1) := by decide +kernel
theorem dX0_drop_13 : decode cX0_drop 13 = .ok (.iconst 0, 1) := by decide +kernel
theorem dX0_drop_14 : decode cX0_drop 14 = .ok (.istore_n 3, 1) := by decide +kernel
theorem dX0_drop_15 : decode cX0_drop 15 = .ok (.iload_n 3, 1) := by decide +kernel
theorem dX0_drop_16 : decode cX0_drop 16 = .ok (.bipush 12, 2) := by decide +kernel
theorem dX0_drop_18 : decode cX0_drop 18 = .ok (.if_icmp .ge 24, 3) := by decide +kernel
theorem dX0_drop_21 : decode cX0_drop 21 = .ok (.aload_n 0, 1) := by decide +kernel
theorem dX0_drop_22 : decode cX0_drop 22 = .ok (.getfield 35, 3) := by decide +kernel
theorem dX0_drop_25 : decode cX0_drop 25 = .ok (.iload_n 3, 1) := by decide +kernel
theorem dX0_drop_26 : decode cX0_drop 26 = .ok (.iaload, 1) := by decide +kernel
theorem dX0_drop_27 : decode cX0_drop 27 = .ok (.iload_n 1, 1) := by decide +kernel
theorem dX0_drop_28 : decode cX0_drop 28 = .ok (.if_icmp .ne 8, 3) := by decide +kernel
theorem dX0_drop_31 : decode cX0_drop 31 = .ok (.aload_n 0, 1) := by decide +kernel
theorem dX0_drop_32 : decode cX0_drop 32 = .ok (.iload_n 3, 1) := by decide +kernel
theorem dX0_drop_33 : decode cX0_drop 33 = .ok (.invokevirtual 118, 3) := by decide +kernel
theorem dX0_drop_36 : decode cX0_drop 36 = .ok (.iinc 3 1, 3) := by decide +kernel
theorem dX0_drop_39 : decode cX0_drop 39 = .ok (.goto (-24), 3) := by decide +kernel
theorem dX0_drop_42 : decode cX0_drop 42 = .ok (.iload_n 2, 1) := by decide +kernel
theorem dX0_drop_43 : decode cX0_drop 43 = .ok (.ireturn, 1) := by decide +kernel
set_option maxRecDepth 20000 in
theorem ggX0_live_X0_giveFromQueue : GoodIn wsX0_live wsX0_giveFromQueue := goodIn_r _ [6, 7, 8, 9, 10, 11, 5, 12, 13, 14, 15, 16, 17, 18, 19, 20, 21, 22, 23, 24, 25, 26, 27, 28, 29, 30, 31, 32, 33, 34, 35, 36, 37, 38, 39, 40, 41, 42, 43, 44, 45, 46, 47, 48, 49, 50, 51, 52, 53, 54, 55, 1, 56, 57, 58, 59, 60, 61, 62, 63, 73, 74, 75, 76, 77, 78, 79, 80, 81, 82, 83, 84, 85, 86, 87, 88] (by decide +kernel) (by decide +kernel)
set_option maxRecDepth 20000 in
theorem gX0_live_X0_giveFromQueue : GoodIn wsX0_live (wsV RX0 122 RX0 yX0_giveFromQueue wsX0_giveFromQueue) := goodIn_app (goodIn_of _ (by decide +kernel)) ggX0_live_X0_giveFromQueue
set_option maxRecDepth 20000 in
theorem ggX0_live_X0_setUpPosts : GoodIn wsX0_live wsX0_setUpPosts := goodIn_r _ [67, 44, 63, 68, 69, 70, 71, 5, 72, 73, 74, 75, 76, 77, 78, 79, 80, 81, 82, 83, 84, 85, 86, 87, 88] (by decide +kernel) (by decide +kernel)
set_option maxRecDepth 20000 in
theorem gX0_live_X0_setUpPosts : GoodIn wsX0_live (wsV RX0 126 RX0 yX0_setUpPosts wsX0_setUpPosts) := goodIn_app (goodIn_of _ (by decide +kernel)) ggX0_live_X0_setUpPosts
theorem dX0_live_0 : decode cX0_live 0 = .ok (.iconst 0, 1) := by decide +kernel
theorem dX0_live_1 : decode cX0_live 1 = .ok (.istore_n 2, 1) := by decide +kernel
theorem dX0_live_2 : decode cX0_live 2 = .ok (.iconst 0, 1) := by decide +kernel
theorem dX0_live_3 : decode cX0_live 3 = .ok (.istore_n 3, 1) := by decide +kernel
theorem dX0_live_4 : decode cX0_live 4 = .ok (.iload_n 3, 1) := by decide +kernel
theorem dX0_live_5 : decode cX0_live 5 = .ok (.iload_n 1, 1) := by decide +kernel
theorem dX0_live_6 : decode cX0_live 6 = .ok (.if_icmp .ge 33, 3) := by decide +kernel
theorem dX0_live_9 : decode cX0_live 9 = .ok (.aload_n 0, 1) := by decide +kernel
theorem dX0_live_10 : decode cX0_live 10 = .ok (.invokevirtual 122, 3) := by decide +kernel
theorem dX0_live_13 : decode cX0_live 13 = .ok (.ifCond .eq 6, 3) := by decide +kernel
theorem dX0_live_16 : decode cX0_live 16 = .ok (.iinc 2 1, 3) := by decide +kernel
theorem dX0_live_19 : decode cX0_live 19 = .ok (.aload_n 0, 1) := by decide +kernel
theorem dX0_live_20 : decode cX0_live 20 = .ok (.invokevirtual 126, 3) := by decide +kernel
theorem dX0_live_23 : decode cX0_live 23 = .ok (.aload_n 0, 1) := by decide +kernel
theorem dX0_live_24 : decode cX0_live 24 = .ok (.dup, 1) := by decide +kernel
theorem dX0_live_25 : decode cX0_live 25 = .ok (.getfield 104, 3) := by decide +kernel
theorem dX0_live_28 : decode cX0_live 28 = .ok (.iconst 1, 1) := by decide +kernel
theorem dX0_live_29 : decode cX0_live 29 = .ok (.iadd, 1) := by decide +kernel
theorem dX0_live_30 : decode cX0_live 30 = .ok (.putfield 104, 3) := by decide +kernel
theorem dX0_live_33 : decode cX0_live 33 = .ok (.iinc 3 1, 3) := by decide +kernel
theorem dX0_live_36 : decode cX0_live 36 = .ok (.goto (-32), 3) := by decide +kernel
theorem dX0_live_39 : decode cX0_live 39 = .ok (.iload_n 2, 1) := by decide +kernel
theorem dX0_live_40 : decode cX0_live 40 = .ok (.ireturn, 1) := by decide +kernel
set_option maxRecDepth 20000 in
theorem ggX0_giveFromQueue_X0_waits : GoodIn wsX0_giveFromQueue wsX0_waits := goodIn_r _ [7, 8, 9, 10, 6, 11, 12, 13, 14, 15, 16, 17, 60, 61, 62, 63, 64, 65, 66, 67, 68, 69, 70, 71, 72, 73, 74, 75] (by decide +kernel) (by decide +kernel)
set_option maxRecDepth 20000 in
theorem gX0_giveFromQueue_X0_waits : GoodIn wsX0_giveFromQueue (wsV RX0 87 RX0 yX0_waits wsX0_waits) := goodIn_app (goodIn_of _ (by decide +kernel)) ggX0_giveFromQueue_X0_waits
set_option maxRecDepth 20000 in
theorem ggX0_giveFromQueue_X0_lowestFree : GoodIn wsX0_giveFromQueue wsX0_lowestFree := goodIn_r _ [21, 13, 14, 15, 6, 16, 17, 22, 23, 24, 25, 26, 27, 28, 29, 30, 31, 32, 33, 34, 1, 35, 36, 37, 38, 39, 40, 41, 42, 43, 44, 45, 46, 47, 48, 49, 50, 12, 2, 51, 52, 60, 61, 62, 63, 64, 65, 66, 67, 68, 69, 70, 71, 72, 73, 74, 75] (by decide +kernel) (by decide +kernel)
set_option maxRecDepth 20000 in
theorem gX0_giveFromQueue_X0_lowestFree : GoodIn wsX0_giveFromQueue (wsV RX0 129 RX0 yX0_lowestFree wsX0_lowestFree) := goodIn_app (goodIn_of _ (by decide +kernel)) ggX0_giveFromQueue_X0_lowestFree
set_option maxRecDepth 20000 in
theorem ggX0_giveFromQueue_X0_place : GoodIn wsX0_giveFromQueue wsX0_place := goodIn_r _ [56, 17, 52, 51, 57, 58, 59, 60, 61, 62, 63, 64, 65, 66, 67, 68, 69, 70, 71, 72, 73, 74, 75] (by decide +kernel) (by decide +kernel)
set_option maxRecDepth 20000 in
theorem gX0_giveFromQueue_X0_place : GoodIn wsX0_giveFromQueue (wsV RX0 132 RX0 yX0_place wsX0_place) := goodIn_app (goodIn_of _ (by decide +kernel)) ggX0_giveFromQueue_X0_place
theorem dX0_giveFromQueue_0 : decode cX0_giveFromQueue 0 = .ok (.bipush 9, 2) := by decide +kernel
theorem dX0_giveFromQueue_2 : decode cX0_giveFromQueue 2 = .ok (.istore_n 1, 1) := by decide +kernel
theorem dX0_giveFromQueue_3 : decode cX0_giveFromQueue 3 = .ok (.iload_n 1, 1) := by decide +kernel
theorem dX0_giveFromQueue_4 : decode cX0_giveFromQueue 4 = .ok (.ifCond .lt 63, 3) := by decide +kernel
theorem dX0_giveFromQueue_7 : decode cX0_giveFromQueue 7 = .ok (.iconst 0, 1) := by decide +kernel
theorem dX0_giveFromQueue_8 : decode cX0_giveFromQueue 8 = .ok (.istore_n 2, 1) := by decide +kernel
theorem dX0_giveFromQueue_9 : decode cX0_giveFromQueue 9 = .ok (.iload_n 2, 1) := by decide +kernel
theorem dX0_giveFromQueue_10 : decode cX0_giveFromQueue 10 = .ok (.aload_n 0, 1) := by decide +kernel
theorem dX0_giveFromQueue_11 : decode cX0_giveFromQueue 11 = .ok (.getfield 53, 3) := by decide +kernel
theorem dX0_giveFromQueue_14 : decode cX0_giveFromQueue 14 = .ok (.if_icmp .ge 47, 3) := by decide +kernel
theorem dX0_giveFromQueue_17 : decode cX0_giveFromQueue 17 = .ok (.aload_n 0, 1) := by decide +kernel
theorem dX0_giveFromQueue_18 : decode cX0_giveFromQueue 18 = .ok (.getfield 25, 3) := by decide +kernel
theorem dX0_giveFromQueue_21 : decode cX0_giveFromQueue 21 = .ok (.iload_n 2, 1) := by decide +kernel
theorem dX0_giveFromQueue_22 : decode cX0_giveFromQueue 22 = .ok (.iaload, 1) := by decide +kernel
theorem dX0_giveFromQueue_23 : decode cX0_giveFromQueue 23 = .ok (.iload_n 1, 1) := by decide +kernel
theorem dX0_giveFromQueue_24 : decode cX0_giveFromQueue 24 = .ok (.if_icmp .ne 31, 3) := by decide +kernel
theorem dX0_giveFromQueue_27 : decode cX0_giveFromQueue 27 = .ok (.aload_n 0, 1) := by decide +kernel
theorem dX0_giveFromQueue_28 : decode cX0_giveFromQueue 28 = .ok (.iload_n 2, 1) := by decide +kernel
theorem dX0_giveFromQueue_29 : decode cX0_giveFromQueue 29 = .ok (.invokevirtual 87, 3) := by decide +kernel
theorem dX0_giveFromQueue_32 : decode cX0_giveFromQueue 32 = .ok (.ifCond .eq 23, 3) := by decide +kernel
theorem dX0_giveFromQueue_35 : decode cX0_giveFromQueue 35 = .ok (.aload_n 0, 1) := by decide +kernel
theorem dX0_giveFromQueue_36 : decode cX0_giveFromQueue 36 = .ok (.iload_n 2, 1) := by decide +kernel
theorem dX0_giveFromQueue_37 : decode cX0_giveFromQueue 37 = .ok (.invokevirtual 129, 3) := by decide +kernel
theorem dX0_giveFromQueue_40 : decode cX0_giveFromQueue 40 = .ok (.istore_n 3, 1) := by decide +kernel
theorem dX0_giveFromQueue_41 : decode cX0_giveFromQueue 41 = .ok (.iload_n 3, 1) := by decide +kernel
theorem dX0_giveFromQueue_42 : decode cX0_giveFromQueue 42 = .ok (.bipush (-6), 2) := by decide +kernel
theorem dX0_giveFromQueue_44 : decode cX0_giveFromQueue 44 = .ok (.if_icmp .eq 11, 3) := by decide +kernel
theorem dX0_giveFromQueue_47 : decode cX0_giveFromQueue 47 = .ok (.aload_n 0, 1) := by decide +kernel
theorem dX0_giveFromQueue_48 : decode cX0_giveFromQueue 48 = .ok (.iload_n 2, 1) := by decide +kernel
theorem dX0_giveFromQueue_49 : decode cX0_giveFromQueue 49 = .ok (.iload_n 3, 1) := by decide +kernel
theorem dX0_giveFromQueue_50 : decode cX0_giveFromQueue 50 = .ok (.invokevirtual 132, 3) := by decide +kernel
theorem dX0_giveFromQueue_53 : decode cX0_giveFromQueue 53 = .ok (.iconst 1, 1) := by decide +kernel
theorem dX0_giveFromQueue_54 : decode cX0_giveFromQueue 54 = .ok (.ireturn, 1) := by decide +kernel
theorem dX0_giveFromQueue_55 : decode cX0_giveFromQueue 55 = .ok (.iinc 2 1, 3) := by decide +kernel
theorem dX0_giveFromQueue_58 : decode cX0_giveFromQueue 58 = .ok (.goto (-49), 3) := by decide +kernel
theorem dX0_giveFromQueue_61 : decode cX0_giveFromQueue 61 = .ok (.iinc 1 (-1), 3) := by decide +kernel
theorem dX0_giveFromQueue_64 : decode cX0_giveFromQueue 64 = .ok (.goto (-61), 3) := by decide +kernel
theorem dX0_giveFromQueue_67 : decode cX0_giveFromQueue 67 = .ok (.iconst 0, 1) := by decide +kernel
theorem dX0_giveFromQueue_68 : decode cX0_giveFromQueue 68 = .ok (.ireturn, 1) := by decide +kernel
set_option maxRecDepth 20000 in
theorem ggX0_setUpPosts_X0_mostOwing : GoodIn wsX0_setUpPosts wsX0_mostOwing := goodIn_r _ [8, 2, 9, 10, 11, 12, 13, 14, 15, 16, 17, 18, 19, 20, 21, 22, 23, 24] (by decide +kernel) (by decide +kernel)
set_option maxRecDepth 20000 in
theorem gX0_setUpPosts_X0_mostOwing : GoodIn wsX0_setUpPosts (wsV RX0 136 RX0 yX0_mostOwing wsX0_mostOwing) := goodIn_app (goodIn_of _ (by decide +kernel)) ggX0_setUpPosts_X0_mostOwing
theorem dX0_setUpPosts_0 : decode cX0_setUpPosts 0 = .ok (.iconst 0, 1) := by decide +kernel
theorem dX0_setUpPosts_1 : decode cX0_setUpPosts 1 = .ok (.istore_n 1, 1) := by decide +kernel
theorem dX0_setUpPosts_2 : decode cX0_setUpPosts 2 = .ok (.iload_n 1, 1) := by decide +kernel
theorem dX0_setUpPosts_3 : decode cX0_setUpPosts 3 = .ok (.aload_n 0, 1) := by decide +kernel
theorem dX0_setUpPosts_4 : decode cX0_setUpPosts 4 = .ok (.getfield 9, 3) := by decide +kernel
theorem dX0_setUpPosts_7 : decode cX0_setUpPosts 7 = .ok (.iconst 2, 1) := by decide +kernel
theorem dX0_setUpPosts_8 : decode cX0_setUpPosts 8 = .ok (.iaload, 1) := by decide +kernel
theorem dX0_setUpPosts_9 : decode cX0_setUpPosts 9 = .ok (.if_icmp .ge 44, 3) := by decide +kernel
theorem dX0_setUpPosts_12 : decode cX0_setUpPosts 12 = .ok (.aload_n 0, 1) := by decide +kernel
theorem dX0_setUpPosts_13 : decode cX0_setUpPosts 13 = .ok (.invokevirtual 136, 3) := by decide +kernel
theorem dX0_setUpPosts_16 : decode cX0_setUpPosts 16 = .ok (.istore_n 2, 1) := by decide +kernel
theorem dX0_setUpPosts_17 : decode cX0_setUpPosts 17 = .ok (.aload_n 0, 1) := by decide +kernel
theorem dX0_setUpPosts_18 : decode cX0_setUpPosts 18 = .ok (.getfield 38, 3) := by decide +kernel
theorem dX0_setUpPosts_21 : decode cX0_setUpPosts 21 = .ok (.iload_n 2, 1) := by decide +kernel
theorem dX0_setUpPosts_22 : decode cX0_setUpPosts 22 = .ok (.iaload, 1) := by decide +kernel
theorem dX0_setUpPosts_23 : decode cX0_setUpPosts 23 = .ok (.ifCond .gt 4, 3) := by decide +kernel
theorem dX0_setUpPosts_26 : decode cX0_setUpPosts 26 = .ok (.return_, 1) := by decide +kernel
theorem dX0_setUpPosts_27 : decode cX0_setUpPosts 27 = .ok (.aload_n 0, 1) := by decide +kernel
theorem dX0_setUpPosts_28 : decode cX0_setUpPosts 28 = .ok (.getfield 38, 3) := by decide +kernel
theorem dX0_setUpPosts_31 : decode cX0_setUpPosts 31 = .ok (.iload_n 2, 1) := by decide +kernel
theorem dX0_setUpPosts_32 : decode cX0_setUpPosts 32 = .ok (.dup2, 1) := by decide +kernel
theorem dX0_setUpPosts_33 : decode cX0_setUpPosts 33 = .ok (.iaload, 1) := by decide +kernel
theorem dX0_setUpPosts_34 : decode cX0_setUpPosts 34 = .ok (.iconst 1, 1) := by decide +kernel
theorem dX0_setUpPosts_35 : decode cX0_setUpPosts 35 = .ok (.isub, 1) := by decide +kernel
theorem dX0_setUpPosts_36 : decode cX0_setUpPosts 36 = .ok (.iastore, 1) := by decide +kernel
theorem dX0_setUpPosts_37 : decode cX0_setUpPosts 37 = .ok (.aload_n 0, 1) := by decide +kernel
theorem dX0_setUpPosts_38 : decode cX0_setUpPosts 38 = .ok (.getfield 41, 3) := by decide +kernel
theorem dX0_setUpPosts_41 : decode cX0_setUpPosts 41 = .ok (.iload_n 2, 1) := by decide +kernel
theorem dX0_setUpPosts_42 : decode cX0_setUpPosts 42 = .ok (.dup2, 1) := by decide +kernel
theorem dX0_setUpPosts_43 : decode cX0_setUpPosts 43 = .ok (.iaload, 1) := by decide +kernel
theorem dX0_setUpPosts_44 : decode cX0_setUpPosts 44 = .ok (.iconst 1, 1) := by decide +kernel
theorem dX0_setUpPosts_45 : decode cX0_setUpPosts 45 = .ok (.iadd, 1) := by decide +kernel
theorem dX0_setUpPosts_46 : decode cX0_setUpPosts 46 = .ok (.iastore, 1) := by decide +kernel
theorem dX0_setUpPosts_47 : decode cX0_setUpPosts 47 = .ok (.iinc 1 1, 3) := by decide +kernel
theorem dX0_setUpPosts_50 : decode cX0_setUpPosts 50 = .ok (.goto (-48), 3) := by decide +kernel
theorem dX0_setUpPosts_53 : decode cX0_setUpPosts 53 = .ok (.return_, 1) := by decide +kernel
theorem dX0_mostOwing_0 : decode cX0_mostOwing 0 = .ok (.iconst 0, 1) := by decide +kernel
theorem dX0_mostOwing_1 : decode cX0_mostOwing 1 = .ok (.istore_n 1, 1) := by decide +kernel
theorem dX0_mostOwing_2 : decode cX0_mostOwing 2 = .ok (.iconst 1, 1) := by decide +kernel
theorem dX0_mostOwing_3 : decode cX0_mostOwing 3 = .ok (.istore_n 2, 1) := by decide +kernel
theorem dX0_mostOwing_4 : decode cX0_mostOwing 4 = .ok (.iload_n 2, 1) := by decide +kernel
theorem dX0_mostOwing_5 : decode cX0_mostOwing 5 = .ok (.bipush 12, 2) := by decide +kernel
theorem dX0_mostOwing_7 : decode cX0_mostOwing 7 = .ok (.if_icmp .ge 26, 3) := by decide +kernel
theorem dX0_mostOwing_10 : decode cX0_mostOwing 10 = .ok (.aload_n 0, 1) := by decide +kernel
theorem dX0_mostOwing_11 : decode cX0_mostOwing 11 = .ok (.getfield 38, 3) := by decide +kernel
theorem dX0_mostOwing_14 : decode cX0_mostOwing 14 = .ok (.iload_n 2, 1) := by decide +kernel
theorem dX0_mostOwing_15 : decode cX0_mostOwing 15 = .ok (.iaload, 1) := by decide +kernel
theorem dX0_mostOwing_16 : decode cX0_mostOwing 16 = .ok (.aload_n 0, 1) := by decide +kernel
theorem dX0_mostOwing_17 : decode cX0_mostOwing 17 = .ok (.getfield 38, 3) := by decide +kernel
theorem dX0_mostOwing_20 : decode cX0_mostOwing 20 = .ok (.iload_n 1, 1) := by decide +kernel
theorem dX0_mostOwing_21 : decode cX0_mostOwing 21 = .ok (.iaload, 1) := by decide +kernel
theorem dX0_mostOwing_22 : decode cX0_mostOwing 22 = .ok (.if_icmp .le 5, 3) := by decide +kernel
theorem dX0_mostOwing_25 : decode cX0_mostOwing 25 = .ok (.iload_n 2, 1) := by decide +kernel
theorem dX0_mostOwing_26 : decode cX0_mostOwing 26 = .ok (.istore_n 1, 1) := by decide +kernel
theorem dX0_mostOwing_27 : decode cX0_mostOwing 27 = .ok (.iinc 2 1, 3) := by decide +kernel
theorem dX0_mostOwing_30 : decode cX0_mostOwing 30 = .ok (.goto (-26), 3) := by decide +kernel
theorem dX0_mostOwing_33 : decode cX0_mostOwing 33 = .ok (.iload_n 1, 1) := by decide +kernel
theorem dX0_mostOwing_34 : decode cX0_mostOwing 34 = .ok (.ireturn, 1) := by decide +kernel
theorem dX0_wrongOnMap_0 : decode cX0_wrongOnMap 0 = .ok (.aload_n 0, 1) := by decide +kernel
theorem dX0_wrongOnMap_1 : decode cX0_wrongOnMap 1 = .ok (.getfield 140, 3) := by decide +kernel
theorem dX0_wrongOnMap_4 : decode cX0_wrongOnMap 4 = .ok (.ifCond .ne 6, 3) := by decide +kernel
theorem dX0_wrongOnMap_7 : decode cX0_wrongOnMap 7 = .ok (.bipush (-6), 2) := by decide +kernel
theorem dX0_wrongOnMap_9 : decode cX0_wrongOnMap 9 = .ok (.ireturn, 1) := by decide +kernel
theorem dX0_wrongOnMap_10 : decode cX0_wrongOnMap 10 = .ok (.iconst 0, 1) := by decide +kernel
theorem dX0_wrongOnMap_11 : decode cX0_wrongOnMap 11 = .ok (.istore_n 1, 1) := by decide +kernel
theorem dX0_wrongOnMap_12 : decode cX0_wrongOnMap 12 = .ok (.iconst 0, 1) := by decide +kernel
theorem dX0_wrongOnMap_13 : decode cX0_wrongOnMap 13 = .ok (.istore_n 2, 1) := by decide +kernel
theorem dX0_wrongOnMap_14 : decode cX0_wrongOnMap 14 = .ok (.iload_n 2, 1) := by decide +kernel
theorem dX0_wrongOnMap_15 : decode cX0_wrongOnMap 15 = .ok (.bipush 12, 2) := by decide +kernel
theorem dX0_wrongOnMap_17 : decode cX0_wrongOnMap 17 = .ok (.if_icmp .ge 27, 3) := by decide +kernel
theorem dX0_wrongOnMap_20 : decode cX0_wrongOnMap 20 = .ok (.aload_n 0, 1) := by decide +kernel
theorem dX0_wrongOnMap_21 : decode cX0_wrongOnMap 21 = .ok (.getfield 50, 3) := by decide +kernel
theorem dX0_wrongOnMap_24 : decode cX0_wrongOnMap 24 = .ok (.iload_n 2, 1) := by decide +kernel
theorem dX0_wrongOnMap_25 : decode cX0_wrongOnMap 25 = .ok (.iaload, 1) := by decide +kernel
theorem dX0_wrongOnMap_26 : decode cX0_wrongOnMap 26 = .ok (.aload_n 0, 1) := by decide +kernel
theorem dX0_wrongOnMap_27 : decode cX0_wrongOnMap 27 = .ok (.getfield 35, 3) := by decide +kernel
theorem dX0_wrongOnMap_30 : decode cX0_wrongOnMap 30 = .ok (.iload_n 2, 1) := by decide +kernel
theorem dX0_wrongOnMap_31 : decode cX0_wrongOnMap 31 = .ok (.iaload, 1) := by decide +kernel
theorem dX0_wrongOnMap_32 : decode cX0_wrongOnMap 32 = .ok (.if_icmp .eq 6, 3) := by decide +kernel
theorem dX0_wrongOnMap_35 : decode cX0_wrongOnMap 35 = .ok (.iinc 1 1, 3) := by decide +kernel
theorem dX0_wrongOnMap_38 : decode cX0_wrongOnMap 38 = .ok (.iinc 2 1, 3) := by decide +kernel
theorem dX0_wrongOnMap_41 : decode cX0_wrongOnMap 41 = .ok (.goto (-27), 3) := by decide +kernel
theorem dX0_wrongOnMap_44 : decode cX0_wrongOnMap 44 = .ok (.iload_n 1, 1) := by decide +kernel
theorem dX0_wrongOnMap_45 : decode cX0_wrongOnMap 45 = .ok (.ireturn, 1) := by decide +kernel
set_option maxRecDepth 20000 in
theorem ggX0_drawMap_X1_copyRow : GoodIn wsX0_drawMap wsX1_copyRow := goodIn_r _ [6, 7, 8, 9, 10, 11, 12, 13, 14] (by decide +kernel) (by decide +kernel)
set_option maxRecDepth 20000 in
theorem gX0_drawMap_X1_copyRow_n144 : GoodIn wsX0_drawMap (wsX1_copyRow) := ggX0_drawMap_X1_copyRow
theorem dX0_drawMap_0 : decode cX0_drawMap 0 = .ok (.aload_n 0, 1) := by decide +kernel
theorem dX0_drawMap_1 : decode cX0_drawMap 1 = .ok (.iconst 1, 1) := by decide +kernel
theorem dX0_drawMap_2 : decode cX0_drawMap 2 = .ok (.putfield 140, 3) := by decide +kernel
theorem dX0_drawMap_5 : decode cX0_drawMap 5 = .ok (.aload_n 0, 1) := by decide +kernel
theorem dX0_drawMap_6 : decode cX0_drawMap 6 = .ok (.getfield 35, 3) := by decide +kernel
theorem dX0_drawMap_9 : decode cX0_drawMap 9 = .ok (.aload_n 0, 1) := by decide +kernel
theorem dX0_drawMap_10 : decode cX0_drawMap 10 = .ok (.getfield 50, 3) := by decide +kernel
theorem dX0_drawMap_13 : decode cX0_drawMap 13 = .ok (.invokestatic 144, 3) := by decide +kernel
theorem dX0_drawMap_16 : decode cX0_drawMap 16 = .ok (.return_, 1) := by decide +kernel
