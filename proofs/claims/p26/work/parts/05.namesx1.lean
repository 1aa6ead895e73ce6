set_option maxRecDepth 20000 in
theorem ggX1_init_X0_init : GoodIn wsX1_init wsX0_init := goodIn_r _ [17, 18, 2, 3, 19, 20, 13, 21, 22, 23, 24, 11, 25, 26, 27, 28, 29, 30, 31, 32, 33, 34, 35, 36, 37, 38, 39, 40, 41, 42, 43, 44, 45, 46, 47, 48] (by decide +kernel) (by decide +kernel)
set_option maxRecDepth 20000 in
theorem gX1_init_X0_init : GoodIn wsX1_init (wsX0_init) := ggX1_init_X0_init
theorem dX1_init_0 : decode cX1_init 0 = .ok (.aload_n 0, 1) := by decide +kernel
theorem dX1_init_1 : decode cX1_init 1 = .ok (.invokespecial 1, 3) := by decide +kernel
theorem dX1_init_4 : decode cX1_init 4 = .ok (.aload_n 0, 1) := by decide +kernel
theorem dX1_init_5 : decode cX1_init 5 = .ok (.new 7, 3) := by decide +kernel
theorem dX1_init_8 : decode cX1_init 8 = .ok (.dup, 1) := by decide +kernel
theorem dX1_init_9 : decode cX1_init 9 = .ok (.invokespecial 9, 3) := by decide +kernel
theorem dX1_init_12 : decode cX1_init 12 = .ok (.putfield 10, 3) := by decide +kernel
theorem dX1_init_15 : decode cX1_init 15 = .ok (.aload_n 0, 1) := by decide +kernel
theorem dX1_init_16 : decode cX1_init 16 = .ok (.new 7, 3) := by decide +kernel
theorem dX1_init_19 : decode cX1_init 19 = .ok (.dup, 1) := by decide +kernel
theorem dX1_init_20 : decode cX1_init 20 = .ok (.invokespecial 9, 3) := by decide +kernel
theorem dX1_init_23 : decode cX1_init 23 = .ok (.putfield 16, 3) := by decide +kernel
theorem dX1_init_26 : decode cX1_init 26 = .ok (.aload_n 0, 1) := by decide +kernel
theorem dX1_init_27 : decode cX1_init 27 = .ok (.bipush 6, 2) := by decide +kernel
theorem dX1_init_29 : decode cX1_init 29 = .ok (.anewarray 7, 3) := by decide +kernel
theorem dX1_init_32 : decode cX1_init 32 = .ok (.putfield 19, 3) := by decide +kernel
theorem dX1_init_35 : decode cX1_init 35 = .ok (.iconst 0, 1) := by decide +kernel
theorem dX1_init_36 : decode cX1_init 36 = .ok (.istore_n 1, 1) := by decide +kernel
theorem dX1_init_37 : decode cX1_init 37 = .ok (.iload_n 1, 1) := by decide +kernel
theorem dX1_init_38 : decode cX1_init 38 = .ok (.bipush 6, 2) := by decide +kernel
theorem dX1_init_40 : decode cX1_init 40 = .ok (.if_icmp .ge 22, 3) := by decide +kernel
theorem dX1_init_43 : decode cX1_init 43 = .ok (.aload_n 0, 1) := by decide +kernel
theorem dX1_init_44 : decode cX1_init 44 = .ok (.getfield 19, 3) := by decide +kernel
theorem dX1_init_47 : decode cX1_init 47 = .ok (.iload_n 1, 1) := by decide +kernel
theorem dX1_init_48 : decode cX1_init 48 = .ok (.new 7, 3) := by decide +kernel
theorem dX1_init_51 : decode cX1_init 51 = .ok (.dup, 1) := by decide +kernel
theorem dX1_init_52 : decode cX1_init 52 = .ok (.invokespecial 9, 3) := by decide +kernel
theorem dX1_init_55 : decode cX1_init 55 = .ok (.aastore, 1) := by decide +kernel
theorem dX1_init_56 : decode cX1_init 56 = .ok (.iinc 1 1, 3) := by decide +kernel
theorem dX1_init_59 : decode cX1_init 59 = .ok (.goto (-22), 3) := by decide +kernel
theorem dX1_init_62 : decode cX1_init 62 = .ok (.aload_n 0, 1) := by decide +kernel
theorem dX1_init_63 : decode cX1_init 63 = .ok (.iconst 2, 1) := by decide +kernel
theorem dX1_init_64 : decode cX1_init 64 = .ok (.anewarray 7, 3) := by decide +kernel
theorem dX1_init_67 : decode cX1_init 67 = .ok (.putfield 23, 3) := by decide +kernel
theorem dX1_init_70 : decode cX1_init 70 = .ok (.iconst 0, 1) := by decide +kernel
theorem dX1_init_71 : decode cX1_init 71 = .ok (.istore_n 1, 1) := by decide +kernel
theorem dX1_init_72 : decode cX1_init 72 = .ok (.iload_n 1, 1) := by decide +kernel
theorem dX1_init_73 : decode cX1_init 73 = .ok (.iconst 2, 1) := by decide +kernel
theorem dX1_init_74 : decode cX1_init 74 = .ok (.if_icmp .ge 22, 3) := by decide +kernel
theorem dX1_init_77 : decode cX1_init 77 = .ok (.aload_n 0, 1) := by decide +kernel
theorem dX1_init_78 : decode cX1_init 78 = .ok (.getfield 23, 3) := by decide +kernel
theorem dX1_init_81 : decode cX1_init 81 = .ok (.iload_n 1, 1) := by decide +kernel
theorem dX1_init_82 : decode cX1_init 82 = .ok (.new 7, 3) := by decide +kernel
theorem dX1_init_85 : decode cX1_init 85 = .ok (.dup, 1) := by decide +kernel
theorem dX1_init_86 : decode cX1_init 86 = .ok (.invokespecial 9, 3) := by decide +kernel
theorem dX1_init_89 : decode cX1_init 89 = .ok (.aastore, 1) := by decide +kernel
theorem dX1_init_90 : decode cX1_init 90 = .ok (.iinc 1 1, 3) := by decide +kernel
theorem dX1_init_93 : decode cX1_init 93 = .ok (.goto (-21), 3) := by decide +kernel
theorem dX1_init_96 : decode cX1_init 96 = .ok (.aload_n 0, 1) := by decide +kernel
theorem dX1_init_97 : decode cX1_init 97 = .ok (.iconst 2, 1) := by decide +kernel
theorem dX1_init_98 : decode cX1_init 98 = .ok (.newarray .boolean, 2) := by decide +kernel
theorem dX1_init_100 : decode cX1_init 100 = .ok (.putfield 26, 3) := by decide +kernel
theorem dX1_init_103 : decode cX1_init 103 = .ok (.aload_n 0, 1) := by decide +kernel
theorem dX1_init_104 : decode cX1_init 104 = .ok (.bipush 60, 2) := by decide +kernel
theorem dX1_init_106 : decode cX1_init 106 = .ok (.newarray .char, 2) := by decide +kernel
theorem dX1_init_108 : decode cX1_init 108 = .ok (.putfield 30, 3) := by decide +kernel
theorem dX1_init_111 : decode cX1_init 111 = .ok (.return_, 1) := by decide +kernel
set_option maxRecDepth 20000 in
theorem ggX1_set_X1_record : GoodIn wsX1_set wsX1_record := goodIn_r _ [9, 10, 11, 3, 12, 13, 8, 14, 4, 15, 16, 17, 18, 19, 20, 21, 22, 23, 24, 25, 26, 27, 28, 29, 30, 31, 32, 33, 34, 35, 36, 37, 38, 39, 40, 41, 42, 43, 44, 45, 46, 47, 48, 49, 50, 51, 52, 53, 54, 55, 56, 57, 58, 59, 60, 61, 62, 63, 64] (by decide +kernel) (by decide +kernel)
set_option maxRecDepth 20000 in
theorem gX1_set_X1_record : GoodIn wsX1_set (wsV RX1 41 RX1 yX1_record wsX1_record) := goodIn_app (goodIn_of _ (by decide +kernel)) ggX1_set_X1_record
theorem dX1_set_0 : decode cX1_set 0 = .ok (.iload_n 1, 1) := by decide +kernel
theorem dX1_set_1 : decode cX1_set 1 = .ok (.ifCond .lt 8, 3) := by decide +kernel
theorem dX1_set_4 : decode cX1_set 4 = .ok (.iload_n 1, 1) := by decide +kernel
theorem dX1_set_5 : decode cX1_set 5 = .ok (.iconst 4, 1) := by decide +kernel
theorem dX1_set_6 : decode cX1_set 6 = .ok (.if_icmp .lt 6, 3) := by decide +kernel
theorem dX1_set_9 : decode cX1_set 9 = .ok (.bipush (-2), 2) := by decide +kernel
theorem dX1_set_11 : decode cX1_set 11 = .ok (.ireturn, 1) := by decide +kernel
theorem dX1_set_12 : decode cX1_set 12 = .ok (.iload_n 2, 1) := by decide +kernel
theorem dX1_set_13 : decode cX1_set 13 = .ok (.getstatic 34, 3) := by decide +kernel
theorem dX1_set_16 : decode cX1_set 16 = .ok (.iload_n 1, 1) := by decide +kernel
theorem dX1_set_17 : decode cX1_set 17 = .ok (.iaload, 1) := by decide +kernel
theorem dX1_set_18 : decode cX1_set 18 = .ok (.if_icmp .lt 12, 3) := by decide +kernel
theorem dX1_set_21 : decode cX1_set 21 = .ok (.iload_n 2, 1) := by decide +kernel
theorem dX1_set_22 : decode cX1_set 22 = .ok (.getstatic 38, 3) := by decide +kernel
theorem dX1_set_25 : decode cX1_set 25 = .ok (.iload_n 1, 1) := by decide +kernel
theorem dX1_set_26 : decode cX1_set 26 = .ok (.iaload, 1) := by decide +kernel
theorem dX1_set_27 : decode cX1_set 27 = .ok (.if_icmp .le 6, 3) := by decide +kernel
theorem dX1_set_30 : decode cX1_set 30 = .ok (.bipush (-2), 2) := by decide +kernel
theorem dX1_set_32 : decode cX1_set 32 = .ok (.ireturn, 1) := by decide +kernel
theorem dX1_set_33 : decode cX1_set 33 = .ok (.aload_n 0, 1) := by decide +kernel
theorem dX1_set_34 : decode cX1_set 34 = .ok (.invokevirtual 41, 3) := by decide +kernel
theorem dX1_set_37 : decode cX1_set 37 = .ok (.aload_n 0, 1) := by decide +kernel
theorem dX1_set_38 : decode cX1_set 38 = .ok (.getfield 10, 3) := by decide +kernel
theorem dX1_set_41 : decode cX1_set 41 = .ok (.getfield 44, 3) := by decide +kernel
theorem dX1_set_44 : decode cX1_set 44 = .ok (.iload_n 1, 1) := by decide +kernel
theorem dX1_set_45 : decode cX1_set 45 = .ok (.iaload, 1) := by decide +kernel
theorem dX1_set_46 : decode cX1_set 46 = .ok (.istore_n 3, 1) := by decide +kernel
theorem dX1_set_47 : decode cX1_set 47 = .ok (.aload_n 0, 1) := by decide +kernel
theorem dX1_set_48 : decode cX1_set 48 = .ok (.getfield 10, 3) := by decide +kernel
theorem dX1_set_51 : decode cX1_set 51 = .ok (.getfield 44, 3) := by decide +kernel
theorem dX1_set_54 : decode cX1_set 54 = .ok (.iload_n 1, 1) := by decide +kernel
theorem dX1_set_55 : decode cX1_set 55 = .ok (.iload_n 2, 1) := by decide +kernel
theorem dX1_set_56 : decode cX1_set 56 = .ok (.iastore, 1) := by decide +kernel
theorem dX1_set_57 : decode cX1_set 57 = .ok (.iload_n 3, 1) := by decide +kernel
theorem dX1_set_58 : decode cX1_set 58 = .ok (.ireturn, 1) := by decide +kernel
set_option maxRecDepth 20000 in
theorem ggX1_read_X1_padFault : GoodIn wsX1_read wsX1_padFault := goodIn_r _ [9, 3, 4, 10, 11, 8, 12, 13, 14, 15, 76, 77, 78, 79, 80, 81, 82, 83] (by decide +kernel) (by decide +kernel)
set_option maxRecDepth 20000 in
theorem gX1_read_X1_padFault : GoodIn wsX1_read (wsV RX1 47 RX1 yX1_padFault wsX1_padFault) := goodIn_app (goodIn_of _ (by decide +kernel)) ggX1_read_X1_padFault
set_option maxRecDepth 20000 in
theorem ggX1_read_X1_padNames : GoodIn wsX1_read wsX1_padNames := goodIn_r _ [19, 3, 4, 13, 14, 8, 15, 76, 77, 78, 79, 80, 81, 82, 83] (by decide +kernel) (by decide +kernel)
set_option maxRecDepth 20000 in
theorem gX1_read_X1_padNames : GoodIn wsX1_read (wsV RX1 55 RX1 yX1_padNames wsX1_padNames) := goodIn_app (goodIn_of _ (by decide +kernel)) ggX1_read_X1_padNames
set_option maxRecDepth 20000 in
theorem ggX1_read_X1_record : GoodIn wsX1_read wsX1_record := goodIn_r _ [23, 24, 25, 1, 26, 27, 8, 28, 29, 30, 2, 31, 32, 33, 34, 35, 36, 37, 38, 39, 40, 41, 42, 43, 44, 45, 46, 47, 48, 49, 50, 51, 52, 53, 54, 76, 77, 78, 79, 80, 81, 82, 83, 84, 85, 86, 87, 88, 89, 90, 91, 92, 93, 94, 95, 96, 97, 98, 99] (by decide +kernel) (by decide +kernel)
set_option maxRecDepth 20000 in
theorem gX1_read_X1_record : GoodIn wsX1_read (wsV RX1 41 RX1 yX1_record wsX1_record) := goodIn_app (goodIn_of _ (by decide +kernel)) ggX1_read_X1_record
set_option maxRecDepth 20000 in
theorem ggX1_read_X1_isDigit : GoodIn wsX1_read wsX1_isDigit := goodIn_r _ [15] (by decide +kernel) (by decide +kernel)
set_option maxRecDepth 20000 in
theorem gX1_read_X1_isDigit : GoodIn wsX1_read (va_wsS RX1 61 yX1_isDigit wsX1_isDigit) := goodIn_app (goodIn_of _ (by decide +kernel)) ggX1_read_X1_isDigit
set_option maxRecDepth 20000 in
theorem ggX1_read_X0_apply : GoodIn wsX1_read wsX0_apply := goodIn_r _ [59, 60, 61, 62, 37, 38, 39, 63, 64, 65, 66, 67, 68, 69, 70, 58, 71, 72, 73, 74, 75, 84, 85, 86, 87, 88, 89, 90, 91, 92, 93, 94, 95, 96, 97, 98, 99] (by decide +kernel) (by decide +kernel)
set_option maxRecDepth 20000 in
theorem gX1_read_X0_apply : GoodIn wsX1_read (wsV RX1 65 RX0 yX0_apply wsX0_apply) := goodIn_app (goodIn_of _ (by decide +kernel)) ggX1_read_X0_apply
theorem dX1_read_0 : decode cX1_read 0 = .ok (.aload_n 0, 1) := by decide +kernel
theorem dX1_read_1 : decode cX1_read 1 = .ok (.invokevirtual 47, 3) := by decide +kernel
theorem dX1_read_4 : decode cX1_read 4 = .ok (.bipush (-6), 2) := by decide +kernel
theorem dX1_read_6 : decode cX1_read 6 = .ok (.if_icmp .eq 6, 3) := by decide +kernel
theorem dX1_read_9 : decode cX1_read 9 = .ok (.bipush (-3), 2) := by decide +kernel
theorem dX1_read_11 : decode cX1_read 11 = .ok (.ireturn, 1) := by decide +kernel
theorem dX1_read_12 : decode cX1_read 12 = .ok (.aload_n 0, 1) := by decide +kernel
theorem dX1_read_13 : decode cX1_read 13 = .ok (.getfield 10, 3) := by decide +kernel
theorem dX1_read_16 : decode cX1_read 16 = .ok (.getfield 51, 3) := by decide +kernel
theorem dX1_read_19 : decode cX1_read 19 = .ok (.aload_n 0, 1) := by decide +kernel
theorem dX1_read_20 : decode cX1_read 20 = .ok (.invokevirtual 55, 3) := by decide +kernel
theorem dX1_read_23 : decode cX1_read 23 = .ok (.iadd, 1) := by decide +kernel
theorem dX1_read_24 : decode cX1_read 24 = .ok (.bipush 20, 2) := by decide +kernel
theorem dX1_read_26 : decode cX1_read 26 = .ok (.if_icmp .le 6, 3) := by decide +kernel
theorem dX1_read_29 : decode cX1_read 29 = .ok (.bipush (-4), 2) := by decide +kernel
theorem dX1_read_31 : decode cX1_read 31 = .ok (.ireturn, 1) := by decide +kernel
theorem dX1_read_32 : decode cX1_read 32 = .ok (.aload_n 0, 1) := by decide +kernel
theorem dX1_read_33 : decode cX1_read 33 = .ok (.invokevirtual 41, 3) := by decide +kernel
theorem dX1_read_36 : decode cX1_read 36 = .ok (.iconst 0, 1) := by decide +kernel
theorem dX1_read_37 : decode cX1_read 37 = .ok (.istore_n 1, 1) := by decide +kernel
theorem dX1_read_38 : decode cX1_read 38 = .ok (.iconst 0, 1) := by decide +kernel
theorem dX1_read_39 : decode cX1_read 39 = .ok (.istore_n 2, 1) := by decide +kernel
theorem dX1_read_40 : decode cX1_read 40 = .ok (.iload_n 2, 1) := by decide +kernel
theorem dX1_read_41 : decode cX1_read 41 = .ok (.aload_n 0, 1) := by decide +kernel
theorem dX1_read_42 : decode cX1_read 42 = .ok (.getfield 58, 3) := by decide +kernel
theorem dX1_read_45 : decode cX1_read 45 = .ok (.if_icmp .ge 49, 3) := by decide +kernel
theorem dX1_read_48 : decode cX1_read 48 = .ok (.aload_n 0, 1) := by decide +kernel
theorem dX1_read_49 : decode cX1_read 49 = .ok (.getfield 30, 3) := by decide +kernel
theorem dX1_read_52 : decode cX1_read 52 = .ok (.iload_n 2, 1) := by decide +kernel
theorem dX1_read_53 : decode cX1_read 53 = .ok (.caload, 1) := by decide +kernel
theorem dX1_read_54 : decode cX1_read 54 = .ok (.invokestatic 61, 3) := by decide +kernel
theorem dX1_read_57 : decode cX1_read 57 = .ok (.ifCond .eq 31, 3) := by decide +kernel
theorem dX1_read_60 : decode cX1_read 60 = .ok (.aload_n 0, 1) := by decide +kernel
theorem dX1_read_61 : decode cX1_read 61 = .ok (.getfield 10, 3) := by decide +kernel
theorem dX1_read_64 : decode cX1_read 64 = .ok (.aload_n 0, 1) := by decide +kernel
theorem dX1_read_65 : decode cX1_read 65 = .ok (.getfield 30, 3) := by decide +kernel
theorem dX1_read_68 : decode cX1_read 68 = .ok (.iload_n 1, 1) := by decide +kernel
theorem dX1_read_69 : decode cX1_read 69 = .ok (.iload_n 2, 1) := by decide +kernel
theorem dX1_read_70 : decode cX1_read 70 = .ok (.iload_n 1, 1) := by decide +kernel
theorem dX1_read_71 : decode cX1_read 71 = .ok (.isub, 1) := by decide +kernel
theorem dX1_read_72 : decode cX1_read 72 = .ok (.aload_n 0, 1) := by decide +kernel
theorem dX1_read_73 : decode cX1_read 73 = .ok (.getfield 30, 3) := by decide +kernel
theorem dX1_read_76 : decode cX1_read 76 = .ok (.iload_n 2, 1) := by decide +kernel
theorem dX1_read_77 : decode cX1_read 77 = .ok (.caload, 1) := by decide +kernel
theorem dX1_read_78 : decode cX1_read 78 = .ok (.bipush 48, 2) := by decide +kernel
theorem dX1_read_80 : decode cX1_read 80 = .ok (.isub, 1) := by decide +kernel
theorem dX1_read_81 : decode cX1_read 81 = .ok (.invokevirtual 65, 3) := by decide +kernel
theorem dX1_read_84 : decode cX1_read 84 = .ok (.iload_n 2, 1) := by decide +kernel
theorem dX1_read_85 : decode cX1_read 85 = .ok (.iconst 1, 1) := by decide +kernel
theorem dX1_read_86 : decode cX1_read 86 = .ok (.iadd, 1) := by decide +kernel
theorem dX1_read_87 : decode cX1_read 87 = .ok (.istore_n 1, 1) := by decide +kernel
theorem dX1_read_88 : decode cX1_read 88 = .ok (.iinc 2 1, 3) := by decide +kernel
theorem dX1_read_91 : decode cX1_read 91 = .ok (.goto (-51), 3) := by decide +kernel
theorem dX1_read_94 : decode cX1_read 94 = .ok (.aload_n 0, 1) := by decide +kernel
theorem dX1_read_95 : decode cX1_read 95 = .ok (.iconst 0, 1) := by decide +kernel
theorem dX1_read_96 : decode cX1_read 96 = .ok (.putfield 58, 3) := by decide +kernel
theorem dX1_read_99 : decode cX1_read 99 = .ok (.aload_n 0, 1) := by decide +kernel
theorem dX1_read_100 : decode cX1_read 100 = .ok (.getfield 10, 3) := by decide +kernel
theorem dX1_read_103 : decode cX1_read 103 = .ok (.getfield 51, 3) := by decide +kernel
theorem dX1_read_106 : decode cX1_read 106 = .ok (.ireturn, 1) := by decide +kernel
set_option maxRecDepth 20000 in
theorem ggX1_honour_X0_hasName : GoodIn wsX1_honour wsX0_hasName := goodIn_r _ [7, 8, 53, 54, 55, 56, 57, 58, 59, 60, 61, 62, 63, 64, 65, 66, 67, 68] (by decide +kernel) (by decide +kernel)
set_option maxRecDepth 20000 in
theorem gX1_honour_X0_hasName : GoodIn wsX1_honour (wsV RX1 69 RX0 yX0_hasName wsX0_hasName) := goodIn_app (goodIn_of _ (by decide +kernel)) ggX1_honour_X0_hasName
set_option maxRecDepth 20000 in
theorem ggX1_honour_X1_record : GoodIn wsX1_honour wsX1_record := goodIn_r _ [13, 14, 15, 1, 16, 17, 12, 18, 19, 20, 21, 22, 23, 24, 25, 26, 27, 28, 29, 30, 31, 32, 2, 33, 34, 35, 36, 37, 38, 39, 40, 41, 42, 43, 44, 45, 46, 47, 48, 49, 50, 51, 52, 53, 54, 55, 56, 57, 58, 59, 60, 61, 62, 63, 64, 65, 66, 67, 68] (by decide +kernel) (by decide +kernel)
set_option maxRecDepth 20000 in
theorem gX1_honour_X1_record : GoodIn wsX1_honour (wsV RX1 41 RX1 yX1_record wsX1_record) := goodIn_app (goodIn_of _ (by decide +kernel)) ggX1_honour_X1_record
theorem dX1_honour_0 : decode cX1_honour 0 = .ok (.aload_n 0, 1) := by decide +kernel
theorem dX1_honour_1 : decode cX1_honour 1 = .ok (.getfield 10, 3) := by decide +kernel
theorem dX1_honour_4 : decode cX1_honour 4 = .ok (.iload_n 1, 1) := by decide +kernel
theorem dX1_honour_5 : decode cX1_honour 5 = .ok (.invokevirtual 69, 3) := by decide +kernel
theorem dX1_honour_8 : decode cX1_honour 8 = .ok (.ifCond .ne 5, 3) := by decide +kernel
theorem dX1_honour_11 : decode cX1_honour 11 = .ok (.iconst (-1), 1) := by decide +kernel
theorem dX1_honour_12 : decode cX1_honour 12 = .ok (.ireturn, 1) := by decide +kernel
theorem dX1_honour_13 : decode cX1_honour 13 = .ok (.iload_n 2, 1) := by decide +kernel
theorem dX1_honour_14 : decode cX1_honour 14 = .ok (.ifCond .lt 9, 3) := by decide +kernel
theorem dX1_honour_17 : decode cX1_honour 17 = .ok (.iload_n 2, 1) := by decide +kernel
theorem dX1_honour_18 : decode cX1_honour 18 = .ok (.bipush 9, 2) := by decide +kernel
theorem dX1_honour_20 : decode cX1_honour 20 = .ok (.if_icmp .le 6, 3) := by decide +kernel
theorem dX1_honour_23 : decode cX1_honour 23 = .ok (.bipush (-2), 2) := by decide +kernel
theorem dX1_honour_25 : decode cX1_honour 25 = .ok (.ireturn, 1) := by decide +kernel
theorem dX1_honour_26 : decode cX1_honour 26 = .ok (.aload_n 0, 1) := by decide +kernel
theorem dX1_honour_27 : decode cX1_honour 27 = .ok (.invokevirtual 41, 3) := by decide +kernel
theorem dX1_honour_30 : decode cX1_honour 30 = .ok (.aload_n 0, 1) := by decide +kernel
theorem dX1_honour_31 : decode cX1_honour 31 = .ok (.getfield 10, 3) := by decide +kernel
theorem dX1_honour_34 : decode cX1_honour 34 = .ok (.getfield 73, 3) := by decide +kernel
theorem dX1_honour_37 : decode cX1_honour 37 = .ok (.iload_n 1, 1) := by decide +kernel
theorem dX1_honour_38 : decode cX1_honour 38 = .ok (.iaload, 1) := by decide +kernel
theorem dX1_honour_39 : decode cX1_honour 39 = .ok (.istore_n 3, 1) := by decide +kernel
theorem dX1_honour_40 : decode cX1_honour 40 = .ok (.aload_n 0, 1) := by decide +kernel
theorem dX1_honour_41 : decode cX1_honour 41 = .ok (.getfield 10, 3) := by decide +kernel
theorem dX1_honour_44 : decode cX1_honour 44 = .ok (.getfield 73, 3) := by decide +kernel
theorem dX1_honour_47 : decode cX1_honour 47 = .ok (.iload_n 1, 1) := by decide +kernel
theorem dX1_honour_48 : decode cX1_honour 48 = .ok (.iload_n 2, 1) := by decide +kernel
theorem dX1_honour_49 : decode cX1_honour 49 = .ok (.iastore, 1) := by decide +kernel
theorem dX1_honour_50 : decode cX1_honour 50 = .ok (.iload_n 3, 1) := by decide +kernel
theorem dX1_honour_51 : decode cX1_honour 51 = .ok (.ireturn, 1) := by decide +kernel
set_option maxRecDepth 20000 in
theorem ggX1_withdraw_X0_hasName : GoodIn wsX1_withdraw wsX0_hasName := goodIn_r _ [7, 8, 67, 68, 69, 70, 71, 72, 73, 74, 75, 76, 77, 78, 79, 80, 81, 82] (by decide +kernel) (by decide +kernel)
set_option maxRecDepth 20000 in
theorem gX1_withdraw_X0_hasName : GoodIn wsX1_withdraw (wsV RX1 69 RX0 yX0_hasName wsX0_hasName) := goodIn_app (goodIn_of _ (by decide +kernel)) ggX1_withdraw_X0_hasName
set_option maxRecDepth 20000 in
theorem ggX1_withdraw_X1_record : GoodIn wsX1_withdraw wsX1_record := goodIn_r _ [13, 14, 15, 1, 16, 17, 12, 18, 19, 20, 21, 22, 23, 24, 25, 26, 27, 28, 29, 30, 31, 32, 33, 2, 34, 35, 36, 37, 38, 39, 40, 41, 42, 43, 44, 59, 60, 61, 62, 63, 64, 65, 66, 67, 68, 69, 70, 71, 72, 73, 74, 75, 76, 77, 78, 79, 80, 81, 82] (by decide +kernel) (by decide +kernel)
set_option maxRecDepth 20000 in
theorem gX1_withdraw_X1_record : GoodIn wsX1_withdraw (wsV RX1 41 RX1 yX1_record wsX1_record) := goodIn_app (goodIn_of _ (by decide +kernel)) ggX1_withdraw_X1_record
set_option maxRecDepth 20000 in
theorem ggX1_withdraw_X0_drop : GoodIn wsX1_withdraw wsX0_drop := goodIn_r _ [48, 49, 50, 51, 52, 53, 6, 54, 55, 56, 57, 58, 67, 68, 69, 70, 71, 72, 73, 74, 75, 76, 77, 78, 79, 80, 81, 82] (by decide +kernel) (by decide +kernel)
set_option maxRecDepth 20000 in
theorem gX1_withdraw_X0_drop : GoodIn wsX1_withdraw (wsV RX1 79 RX0 yX0_drop wsX0_drop) := goodIn_app (goodIn_of _ (by decide +kernel)) ggX1_withdraw_X0_drop
theorem dX1_withdraw_0 : decode cX1_withdraw 0 = .ok (.aload_n 0, 1) := by decide +kernel
theorem dX1_withdraw_1 : decode cX1_withdraw 1 = .ok (.getfield 10, 3) := by decide +kernel
theorem dX1_withdraw_4 : decode cX1_withdraw 4 = .ok (.iload_n 1, 1) := by decide +kernel
theorem dX1_withdraw_5 : decode cX1_withdraw 5 = .ok (.invokevirtual 69, 3) := by decide +kernel
theorem dX1_withdraw_8 : decode cX1_withdraw 8 = .ok (.ifCond .ne 5, 3) := by decide +kernel
theorem dX1_withdraw_11 : decode cX1_withdraw 11 = .ok (.iconst (-1), 1) := by decide +kernel
theorem dX1_withdraw_12 : decode cX1_withdraw 12 = .ok (.ireturn, 1) := by decide +kernel
theorem dX1_withdraw_13 : decode cX1_withdraw 13 = .ok (.aload_n 0, 1) := by decide +kernel
theorem dX1_withdraw_14 : decode cX1_withdraw 14 = .ok (.getfield 10, 3) := by decide +kernel
theorem dX1_withdraw_17 : decode cX1_withdraw 17 = .ok (.getfield 76, 3) := by decide +kernel
theorem dX1_withdraw_20 : decode cX1_withdraw 20 = .ok (.iload_n 1, 1) := by decide +kernel
theorem dX1_withdraw_21 : decode cX1_withdraw 21 = .ok (.baload, 1) := by decide +kernel
theorem dX1_withdraw_22 : decode cX1_withdraw 22 = .ok (.ifCond .eq 6, 3) := by decide +kernel
theorem dX1_withdraw_25 : decode cX1_withdraw 25 = .ok (.bipush (-5), 2) := by decide +kernel
theorem dX1_withdraw_27 : decode cX1_withdraw 27 = .ok (.ireturn, 1) := by decide +kernel
theorem dX1_withdraw_28 : decode cX1_withdraw 28 = .ok (.aload_n 0, 1) := by decide +kernel
theorem dX1_withdraw_29 : decode cX1_withdraw 29 = .ok (.invokevirtual 41, 3) := by decide +kernel
theorem dX1_withdraw_32 : decode cX1_withdraw 32 = .ok (.aload_n 0, 1) := by decide +kernel
theorem dX1_withdraw_33 : decode cX1_withdraw 33 = .ok (.getfield 10, 3) := by decide +kernel
theorem dX1_withdraw_36 : decode cX1_withdraw 36 = .ok (.iload_n 1, 1) := by decide +kernel
theorem dX1_withdraw_37 : decode cX1_withdraw 37 = .ok (.invokevirtual 79, 3) := by decide +kernel
theorem dX1_withdraw_40 : decode cX1_withdraw 40 = .ok (.ireturn, 1) := by decide +kernel
set_option maxRecDepth 20000 in
theorem ggX1_give_X0_hasName : GoodIn wsX1_give wsX0_hasName := goodIn_r _ [7, 8, 99, 100, 101, 102, 103, 104, 105, 106, 107, 108, 109, 110, 111, 112, 113, 114] (by decide +kernel) (by decide +kernel)
set_option maxRecDepth 20000 in
theorem gX1_give_X0_hasName : GoodIn wsX1_give (wsV RX1 69 RX0 yX0_hasName wsX0_hasName) := goodIn_app (goodIn_of _ (by decide +kernel)) ggX1_give_X0_hasName
set_option maxRecDepth 20000 in
theorem ggX1_give_X1_isCorner : GoodIn wsX1_give wsX1_isCorner := goodIn_r _ [12] (by decide +kernel) (by decide +kernel)
set_option maxRecDepth 20000 in
theorem gX1_give_X1_isCorner : GoodIn wsX1_give (va_wsS RX1 83 yX1_isCorner wsX1_isCorner) := goodIn_app (goodIn_of _ (by decide +kernel)) ggX1_give_X1_isCorner
set_option maxRecDepth 20000 in
theorem ggX1_give_X0_refusal : GoodIn wsX1_give wsX0_refusal := goodIn_r _ [16, 17, 18, 19, 6, 20, 21, 22, 23, 24, 25, 26, 27, 28, 29, 30, 31, 4, 5, 7, 8, 32, 33, 34, 35, 36, 37, 38, 39, 40, 41, 42, 43, 44, 45, 46, 47, 48, 49, 50, 51, 99, 100, 101, 102, 103, 104, 105, 106, 107, 108, 109, 110, 111, 112, 113, 114] (by decide +kernel) (by decide +kernel)
set_option maxRecDepth 20000 in
theorem gX1_give_X0_refusal : GoodIn wsX1_give (wsV RX1 86 RX0 yX0_refusal wsX0_refusal) := goodIn_app (goodIn_of _ (by decide +kernel)) ggX1_give_X0_refusal
set_option maxRecDepth 20000 in
theorem ggX1_give_X1_record : GoodIn wsX1_give wsX1_record := goodIn_r _ [55, 56, 57, 1, 58, 59, 11, 60, 61, 62, 63, 64, 65, 42, 39, 43, 66, 67, 68, 69, 70, 71, 72, 73, 74, 75, 2, 76, 77, 78, 79, 80, 81, 82, 83, 91, 92, 93, 94, 95, 96, 97, 98, 99, 100, 101, 102, 103, 104, 105, 106, 107, 108, 109, 110, 111, 112, 113, 114] (by decide +kernel) (by decide +kernel)
set_option maxRecDepth 20000 in
theorem gX1_give_X1_record : GoodIn wsX1_give (wsV RX1 41 RX1 yX1_record wsX1_record) := goodIn_app (goodIn_of _ (by decide +kernel)) ggX1_give_X1_record
set_option maxRecDepth 20000 in
theorem ggX1_give_X0_place : GoodIn wsX1_give wsX0_place := goodIn_r _ [87, 21, 51, 50, 88, 89, 90, 99, 100, 101, 102, 103, 104, 105, 106, 107, 108, 109, 110, 111, 112, 113, 114] (by decide +kernel) (by decide +kernel)
set_option maxRecDepth 20000 in
theorem gX1_give_X0_place : GoodIn wsX1_give (wsV RX1 90 RX0 yX0_place wsX0_place) := goodIn_app (goodIn_of _ (by decide +kernel)) ggX1_give_X0_place
theorem dX1_give_0 : decode cX1_give 0 = .ok (.aload_n 0, 1) := by decide +kernel
theorem dX1_give_1 : decode cX1_give 1 = .ok (.getfield 10, 3) := by decide +kernel
theorem dX1_give_4 : decode cX1_give 4 = .ok (.iload_n 1, 1) := by decide +kernel
theorem dX1_give_5 : decode cX1_give 5 = .ok (.invokevirtual 69, 3) := by decide +kernel
theorem dX1_give_8 : decode cX1_give 8 = .ok (.ifCond .eq 10, 3) := by decide +kernel
theorem dX1_give_11 : decode cX1_give 11 = .ok (.iload_n 2, 1) := by decide +kernel
theorem dX1_give_12 : decode cX1_give 12 = .ok (.invokestatic 83, 3) := by decide +kernel
theorem dX1_give_15 : decode cX1_give 15 = .ok (.ifCond .ne 5, 3) := by decide +kernel
theorem dX1_give_18 : decode cX1_give 18 = .ok (.iconst (-1), 1) := by decide +kernel
theorem dX1_give_19 : decode cX1_give 19 = .ok (.ireturn, 1) := by decide +kernel
theorem dX1_give_20 : decode cX1_give 20 = .ok (.aload_n 0, 1) := by decide +kernel
theorem dX1_give_21 : decode cX1_give 21 = .ok (.getfield 10, 3) := by decide +kernel
theorem dX1_give_24 : decode cX1_give 24 = .ok (.iload_n 1, 1) := by decide +kernel
theorem dX1_give_25 : decode cX1_give 25 = .ok (.iload_n 2, 1) := by decide +kernel
theorem dX1_give_26 : decode cX1_give 26 = .ok (.invokevirtual 86, 3) := by decide +kernel
theorem dX1_give_29 : decode cX1_give 29 = .ok (.ifCond .eq 6, 3) := by decide +kernel
theorem dX1_give_32 : decode cX1_give 32 = .ok (.bipush (-5), 2) := by decide +kernel
theorem dX1_give_34 : decode cX1_give 34 = .ok (.ireturn, 1) := by decide +kernel
theorem dX1_give_35 : decode cX1_give 35 = .ok (.aload_n 0, 1) := by decide +kernel
theorem dX1_give_36 : decode cX1_give 36 = .ok (.invokevirtual 41, 3) := by decide +kernel
theorem dX1_give_39 : decode cX1_give 39 = .ok (.aload_n 0, 1) := by decide +kernel
theorem dX1_give_40 : decode cX1_give 40 = .ok (.getfield 10, 3) := by decide +kernel
theorem dX1_give_43 : decode cX1_give 43 = .ok (.iload_n 1, 1) := by decide +kernel
theorem dX1_give_44 : decode cX1_give 44 = .ok (.iload_n 2, 1) := by decide +kernel
theorem dX1_give_45 : decode cX1_give 45 = .ok (.invokevirtual 90, 3) := by decide +kernel
theorem dX1_give_48 : decode cX1_give 48 = .ok (.aload_n 0, 1) := by decide +kernel
theorem dX1_give_49 : decode cX1_give 49 = .ok (.getfield 10, 3) := by decide +kernel
theorem dX1_give_52 : decode cX1_give 52 = .ok (.getfield 94, 3) := by decide +kernel
theorem dX1_give_55 : decode cX1_give 55 = .ok (.iload_n 2, 1) := by decide +kernel
theorem dX1_give_56 : decode cX1_give 56 = .ok (.iaload, 1) := by decide +kernel
theorem dX1_give_57 : decode cX1_give 57 = .ok (.ireturn, 1) := by decide +kernel
set_option maxRecDepth 20000 in
theorem ggX1_strip_X1_isCorner : GoodIn wsX1_strip wsX1_isCorner := goodIn_r _ [7] (by decide +kernel) (by decide +kernel)
set_option maxRecDepth 20000 in
theorem gX1_strip_X1_isCorner : GoodIn wsX1_strip (va_wsS RX1 83 yX1_isCorner wsX1_isCorner) := goodIn_app (goodIn_of _ (by decide +kernel)) ggX1_strip_X1_isCorner
set_option maxRecDepth 20000 in
theorem ggX1_strip_X1_record : GoodIn wsX1_strip wsX1_record := goodIn_r _ [11, 12, 13, 1, 14, 15, 6, 16, 17, 18, 19, 20, 21, 22, 23, 24, 25, 26, 27, 28, 29, 30, 31, 32, 33, 2, 3, 34, 35, 36, 37, 38, 39, 40, 41, 48, 49, 50, 51, 52, 53, 54, 55, 56, 57, 58, 59, 60, 61, 62, 63, 64, 65, 66, 67, 68, 69, 70, 71] (by decide +kernel) (by decide +kernel)
set_option maxRecDepth 20000 in
theorem gX1_strip_X1_record : GoodIn wsX1_strip (wsV RX1 41 RX1 yX1_record wsX1_record) := goodIn_app (goodIn_of _ (by decide +kernel)) ggX1_strip_X1_record
set_option maxRecDepth 20000 in
theorem ggX1_strip_X0_bare : GoodIn wsX1_strip wsX0_bare := goodIn_r _ [46, 47, 56, 57, 58, 59, 60, 61, 62, 63, 64, 65, 66, 67, 68, 69, 70, 71] (by decide +kernel) (by decide +kernel)
set_option maxRecDepth 20000 in
theorem gX1_strip_X0_bare : GoodIn wsX1_strip (wsV RX1 100 RX0 yX0_bare wsX0_bare) := goodIn_app (goodIn_of _ (by decide +kernel)) ggX1_strip_X0_bare
theorem dX1_strip_0 : decode cX1_strip 0 = .ok (.iload_n 1, 1) := by decide +kernel
theorem dX1_strip_1 : decode cX1_strip 1 = .ok (.invokestatic 83, 3) := by decide +kernel
theorem dX1_strip_4 : decode cX1_strip 4 = .ok (.ifCond .ne 5, 3) := by decide +kernel
theorem dX1_strip_7 : decode cX1_strip 7 = .ok (.iconst (-1), 1) := by decide +kernel
theorem dX1_strip_8 : decode cX1_strip 8 = .ok (.ireturn, 1) := by decide +kernel
theorem dX1_strip_9 : decode cX1_strip 9 = .ok (.aload_n 0, 1) := by decide +kernel
theorem dX1_strip_10 : decode cX1_strip 10 = .ok (.getfield 10, 3) := by decide +kernel
theorem dX1_strip_13 : decode cX1_strip 13 = .ok (.getfield 97, 3) := by decide +kernel
theorem dX1_strip_16 : decode cX1_strip 16 = .ok (.iload_n 1, 1) := by decide +kernel
theorem dX1_strip_17 : decode cX1_strip 17 = .ok (.iaload, 1) := by decide +kernel
theorem dX1_strip_18 : decode cX1_strip 18 = .ok (.istore_n 2, 1) := by decide +kernel
theorem dX1_strip_19 : decode cX1_strip 19 = .ok (.iload_n 2, 1) := by decide +kernel
theorem dX1_strip_20 : decode cX1_strip 20 = .ok (.bipush (-6), 2) := by decide +kernel
theorem dX1_strip_22 : decode cX1_strip 22 = .ok (.if_icmp .ne 6, 3) := by decide +kernel
theorem dX1_strip_25 : decode cX1_strip 25 = .ok (.bipush (-5), 2) := by decide +kernel
theorem dX1_strip_27 : decode cX1_strip 27 = .ok (.ireturn, 1) := by decide +kernel
theorem dX1_strip_28 : decode cX1_strip 28 = .ok (.aload_n 0, 1) := by decide +kernel
theorem dX1_strip_29 : decode cX1_strip 29 = .ok (.invokevirtual 41, 3) := by decide +kernel
theorem dX1_strip_32 : decode cX1_strip 32 = .ok (.aload_n 0, 1) := by decide +kernel
theorem dX1_strip_33 : decode cX1_strip 33 = .ok (.getfield 10, 3) := by decide +kernel
theorem dX1_strip_36 : decode cX1_strip 36 = .ok (.iload_n 1, 1) := by decide +kernel
theorem dX1_strip_37 : decode cX1_strip 37 = .ok (.invokevirtual 100, 3) := by decide +kernel
theorem dX1_strip_40 : decode cX1_strip 40 = .ok (.aload_n 0, 1) := by decide +kernel
theorem dX1_strip_41 : decode cX1_strip 41 = .ok (.getfield 10, 3) := by decide +kernel
theorem dX1_strip_44 : decode cX1_strip 44 = .ok (.getfield 94, 3) := by decide +kernel
theorem dX1_strip_47 : decode cX1_strip 47 = .ok (.iload_n 1, 1) := by decide +kernel
theorem dX1_strip_48 : decode cX1_strip 48 = .ok (.dup2, 1) := by decide +kernel
theorem dX1_strip_49 : decode cX1_strip 49 = .ok (.iaload, 1) := by decide +kernel
theorem dX1_strip_50 : decode cX1_strip 50 = .ok (.iconst 1, 1) := by decide +kernel
theorem dX1_strip_51 : decode cX1_strip 51 = .ok (.iadd, 1) := by decide +kernel
theorem dX1_strip_52 : decode cX1_strip 52 = .ok (.iastore, 1) := by decide +kernel
theorem dX1_strip_53 : decode cX1_strip 53 = .ok (.iload_n 2, 1) := by decide +kernel
theorem dX1_strip_54 : decode cX1_strip 54 = .ok (.ireturn, 1) := by decide +kernel
set_option maxRecDepth 20000 in
theorem ggX1_issue_X1_record : GoodIn wsX1_issue wsX1_record := goodIn_r _ [6, 7, 8, 1, 9, 10, 5, 11, 12, 13, 14, 15, 16, 17, 18, 19, 20, 21, 22, 23, 24, 25, 26, 27, 28, 29, 30, 31, 32, 33, 34, 35, 36, 37, 38, 51, 52, 53, 54, 55, 56, 57, 58, 59, 60, 61, 62, 63, 64, 65, 66, 67, 68, 69, 70, 71, 72, 73, 74] (by decide +kernel) (by decide +kernel)
set_option maxRecDepth 20000 in
theorem gX1_issue_X1_record : GoodIn wsX1_issue (wsV RX1 41 RX1 yX1_record wsX1_record) := goodIn_app (goodIn_of _ (by decide +kernel)) ggX1_issue_X1_record
set_option maxRecDepth 20000 in
theorem ggX1_issue_X0_wrongOnMap : GoodIn wsX1_issue wsX0_wrongOnMap := goodIn_r _ [43, 44, 45, 46, 59, 60, 61, 62, 63, 64, 65, 66, 67, 68, 69, 70, 71, 72, 73, 74] (by decide +kernel) (by decide +kernel)
set_option maxRecDepth 20000 in
theorem gX1_issue_X0_wrongOnMap : GoodIn wsX1_issue (wsV RX1 104 RX0 yX0_wrongOnMap wsX0_wrongOnMap) := goodIn_app (goodIn_of _ (by decide +kernel)) ggX1_issue_X0_wrongOnMap
set_option maxRecDepth 20000 in
theorem ggX1_issue_X0_drawMap : GoodIn wsX1_issue wsX0_drawMap := goodIn_r _ [50, 44, 46, 45, 37, 5, 38, 16, 17, 18, 19, 20, 21, 22, 23, 59, 60, 61, 62, 63, 64, 65, 66, 67, 68, 69, 70, 71, 72, 73, 74] (by decide +kernel) (by decide +kernel)
set_option maxRecDepth 20000 in
theorem gX1_issue_X0_drawMap : GoodIn wsX1_issue (wsV RX1 107 RX0 yX0_drawMap wsX0_drawMap) := goodIn_app (goodIn_of _ (by decide +kernel)) ggX1_issue_X0_drawMap
theorem dX1_issue_0 : decode cX1_issue 0 = .ok (.aload_n 0, 1) := by decide +kernel
theorem dX1_issue_1 : decode cX1_issue 1 = .ok (.invokevirtual 41, 3) := by decide +kernel
theorem dX1_issue_4 : decode cX1_issue 4 = .ok (.aload_n 0, 1) := by decide +kernel
theorem dX1_issue_5 : decode cX1_issue 5 = .ok (.getfield 10, 3) := by decide +kernel
theorem dX1_issue_8 : decode cX1_issue 8 = .ok (.invokevirtual 104, 3) := by decide +kernel
theorem dX1_issue_11 : decode cX1_issue 11 = .ok (.istore_n 1, 1) := by decide +kernel
theorem dX1_issue_12 : decode cX1_issue 12 = .ok (.aload_n 0, 1) := by decide +kernel
theorem dX1_issue_13 : decode cX1_issue 13 = .ok (.getfield 10, 3) := by decide +kernel
theorem dX1_issue_16 : decode cX1_issue 16 = .ok (.invokevirtual 107, 3) := by decide +kernel
theorem dX1_issue_19 : decode cX1_issue 19 = .ok (.iload_n 1, 1) := by decide +kernel
theorem dX1_issue_20 : decode cX1_issue 20 = .ok (.ireturn, 1) := by decide +kernel
set_option maxRecDepth 20000 in
theorem ggX1_pass_X1_record : GoodIn wsX1_pass wsX1_record := goodIn_r _ [7, 8, 9, 1, 10, 11, 6, 12, 13, 2, 14, 15, 16, 17, 18, 19, 20, 21, 22, 23, 24, 25, 26, 27, 28, 29, 30, 31, 32, 33, 34, 35, 36, 37, 38, 112, 113, 114, 115, 116, 117, 118, 119, 120, 121, 122, 123, 124, 125, 126, 127, 128, 129, 130, 131, 132, 133, 134, 135] (by decide +kernel) (by decide +kernel)
set_option maxRecDepth 20000 in
theorem gX1_pass_X1_record : GoodIn wsX1_pass (wsV RX1 41 RX1 yX1_record wsX1_record) := goodIn_app (goodIn_of _ (by decide +kernel)) ggX1_pass_X1_record
set_option maxRecDepth 20000 in
theorem ggX1_pass_X0_live : GoodIn wsX1_pass wsX0_live := goodIn_r _ [43, 44, 45, 46, 47, 42, 48, 49, 50, 51, 52, 53, 54, 55, 56, 57, 58, 59, 60, 61, 62, 63, 64, 65, 66, 67, 68, 69, 70, 71, 72, 73, 74, 75, 76, 77, 78, 79, 80, 81, 82, 83, 84, 85, 86, 87, 88, 18, 89, 90, 17, 19, 91, 92, 93, 94, 95, 96, 97, 98, 99, 100, 101, 102, 103, 104, 105, 106, 107, 108, 109, 110, 111, 120, 121, 122, 123, 124, 125, 126, 127, 128, 129, 130, 131, 132, 133, 134, 135] (by decide +kernel) (by decide +kernel)
set_option maxRecDepth 20000 in
theorem gX1_pass_X0_live : GoodIn wsX1_pass (wsV RX1 113 RX0 yX0_live wsX0_live) := goodIn_app (goodIn_of _ (by decide +kernel)) ggX1_pass_X0_live
theorem dX1_pass_0 : decode cX1_pass 0 = .ok (.iload_n 1, 1) := by decide +kernel
theorem dX1_pass_1 : decode cX1_pass 1 = .ok (.iconst 1, 1) := by decide +kernel
theorem dX1_pass_2 : decode cX1_pass 2 = .ok (.if_icmp .lt 9, 3) := by decide +kernel
theorem dX1_pass_5 : decode cX1_pass 5 = .ok (.iload_n 1, 1) := by decide +kernel
theorem dX1_pass_6 : decode cX1_pass 6 = .ok (.bipush 99, 2) := by decide +kernel
theorem dX1_pass_8 : decode cX1_pass 8 = .ok (.if_icmp .le 6, 3) := by decide +kernel
theorem dX1_pass_11 : decode cX1_pass 11 = .ok (.bipush (-2), 2) := by decide +kernel
theorem dX1_pass_13 : decode cX1_pass 13 = .ok (.ireturn, 1) := by decide +kernel
theorem dX1_pass_14 : decode cX1_pass 14 = .ok (.aload_n 0, 1) := by decide +kernel
theorem dX1_pass_15 : decode cX1_pass 15 = .ok (.getfield 10, 3) := by decide +kernel
theorem dX1_pass_18 : decode cX1_pass 18 = .ok (.getfield 110, 3) := by decide +kernel
theorem dX1_pass_21 : decode cX1_pass 21 = .ok (.iload_n 1, 1) := by decide +kernel
theorem dX1_pass_22 : decode cX1_pass 22 = .ok (.iadd, 1) := by decide +kernel
theorem dX1_pass_23 : decode cX1_pass 23 = .ok (.sipush 9999, 3) := by decide +kernel
theorem dX1_pass_26 : decode cX1_pass 26 = .ok (.if_icmp .le 6, 3) := by decide +kernel
theorem dX1_pass_29 : decode cX1_pass 29 = .ok (.bipush (-4), 2) := by decide +kernel
theorem dX1_pass_31 : decode cX1_pass 31 = .ok (.ireturn, 1) := by decide +kernel
theorem dX1_pass_32 : decode cX1_pass 32 = .ok (.aload_n 0, 1) := by decide +kernel
theorem dX1_pass_33 : decode cX1_pass 33 = .ok (.invokevirtual 41, 3) := by decide +kernel
theorem dX1_pass_36 : decode cX1_pass 36 = .ok (.aload_n 0, 1) := by decide +kernel
theorem dX1_pass_37 : decode cX1_pass 37 = .ok (.getfield 10, 3) := by decide +kernel
theorem dX1_pass_40 : decode cX1_pass 40 = .ok (.iload_n 1, 1) := by decide +kernel
theorem dX1_pass_41 : decode cX1_pass 41 = .ok (.invokevirtual 113, 3) := by decide +kernel
theorem dX1_pass_44 : decode cX1_pass 44 = .ok (.ireturn, 1) := by decide +kernel
set_option maxRecDepth 20000 in
theorem ggX1_name_X0_hasName : GoodIn wsX1_name wsX0_hasName := goodIn_r _ [10, 11, 44, 45, 46, 47, 48, 49, 50, 51, 52, 53, 54, 55, 56, 57, 58, 59] (by decide +kernel) (by decide +kernel)
set_option maxRecDepth 20000 in
theorem gX1_name_X0_hasName : GoodIn wsX1_name (wsV RX1 69 RX0 yX0_hasName wsX0_hasName) := goodIn_app (goodIn_of _ (by decide +kernel)) ggX1_name_X0_hasName
set_option maxRecDepth 20000 in
theorem ggX1_name_X0_whereIs : GoodIn wsX1_name wsX0_whereIs := goodIn_r _ [15, 16, 17, 18, 19, 9, 20, 21, 44, 45, 46, 47, 48, 49, 50, 51, 52, 53, 54, 55, 56, 57, 58, 59] (by decide +kernel) (by decide +kernel)
set_option maxRecDepth 20000 in
theorem gX1_name_X0_whereIs : GoodIn wsX1_name (wsV RX1 116 RX0 yX0_whereIs wsX0_whereIs) := goodIn_app (goodIn_of _ (by decide +kernel)) ggX1_name_X0_whereIs
set_option maxRecDepth 20000 in
theorem ggX1_name_X0_bearerSet : GoodIn wsX1_name wsX0_bearerSet := goodIn_r _ [25, 21, 44, 45, 46, 47, 48, 49, 50, 51, 52, 53, 54, 55, 56, 57, 58, 59] (by decide +kernel) (by decide +kernel)
set_option maxRecDepth 20000 in
theorem gX1_name_X0_bearerSet : GoodIn wsX1_name (wsV RX1 119 RX0 yX0_bearerSet wsX0_bearerSet) := goodIn_app (goodIn_of _ (by decide +kernel)) ggX1_name_X0_bearerSet
set_option maxRecDepth 20000 in
theorem ggX1_name_X0_placeInQueue : GoodIn wsX1_name wsX0_placeInQueue := goodIn_r _ [29, 11, 30, 31, 32, 33, 9, 34, 35, 13, 14, 15, 16, 17, 18, 19, 20, 21, 44, 45, 46, 47, 48, 49, 50, 51, 52, 53, 54, 55, 56, 57, 58, 59] (by decide +kernel) (by decide +kernel)
set_option maxRecDepth 20000 in
theorem gX1_name_X0_placeInQueue : GoodIn wsX1_name (wsV RX1 122 RX0 yX0_placeInQueue wsX0_placeInQueue) := goodIn_app (goodIn_of _ (by decide +kernel)) ggX1_name_X0_placeInQueue
theorem dX1_name_0 : decode cX1_name 0 = .ok (.aload_n 0, 1) := by decide +kernel
theorem dX1_name_1 : decode cX1_name 1 = .ok (.getfield 10, 3) := by decide +kernel
theorem dX1_name_4 : decode cX1_name 4 = .ok (.iload_n 1, 1) := by decide +kernel
theorem dX1_name_5 : decode cX1_name 5 = .ok (.invokevirtual 69, 3) := by decide +kernel
theorem dX1_name_8 : decode cX1_name 8 = .ok (.ifCond .ne 5, 3) := by decide +kernel
theorem dX1_name_11 : decode cX1_name 11 = .ok (.iconst (-1), 1) := by decide +kernel
theorem dX1_name_12 : decode cX1_name 12 = .ok (.ireturn, 1) := by decide +kernel
theorem dX1_name_13 : decode cX1_name 13 = .ok (.iload_n 2, 1) := by decide +kernel
theorem dX1_name_14 : decode cX1_name 14 = .ok (.tableswitch 109 0 6 #[42, 52, 61, 70, 79, 89, 99], 42) := by decide +kernel
theorem dX1_name_56 : decode cX1_name 56 = .ok (.aload_n 0, 1) := by decide +kernel
theorem dX1_name_57 : decode cX1_name 57 = .ok (.getfield 10, 3) := by decide +kernel
theorem dX1_name_60 : decode cX1_name 60 = .ok (.getfield 73, 3) := by decide +kernel
theorem dX1_name_63 : decode cX1_name 63 = .ok (.iload_n 1, 1) := by decide +kernel
theorem dX1_name_64 : decode cX1_name 64 = .ok (.iaload, 1) := by decide +kernel
theorem dX1_name_65 : decode cX1_name 65 = .ok (.ireturn, 1) := by decide +kernel
theorem dX1_name_66 : decode cX1_name 66 = .ok (.aload_n 0, 1) := by decide +kernel
theorem dX1_name_67 : decode cX1_name 67 = .ok (.getfield 10, 3) := by decide +kernel
theorem dX1_name_70 : decode cX1_name 70 = .ok (.iload_n 1, 1) := by decide +kernel
theorem dX1_name_71 : decode cX1_name 71 = .ok (.invokevirtual 116, 3) := by decide +kernel
theorem dX1_name_74 : decode cX1_name 74 = .ok (.ireturn, 1) := by decide +kernel
theorem dX1_name_75 : decode cX1_name 75 = .ok (.aload_n 0, 1) := by decide +kernel
theorem dX1_name_76 : decode cX1_name 76 = .ok (.getfield 10, 3) := by decide +kernel
theorem dX1_name_79 : decode cX1_name 79 = .ok (.iload_n 1, 1) := by decide +kernel
theorem dX1_name_80 : decode cX1_name 80 = .ok (.invokevirtual 119, 3) := by decide +kernel
theorem dX1_name_83 : decode cX1_name 83 = .ok (.ireturn, 1) := by decide +kernel
theorem dX1_name_84 : decode cX1_name 84 = .ok (.aload_n 0, 1) := by decide +kernel
theorem dX1_name_85 : decode cX1_name 85 = .ok (.getfield 10, 3) := by decide +kernel
theorem dX1_name_88 : decode cX1_name 88 = .ok (.iload_n 1, 1) := by decide +kernel
theorem dX1_name_89 : decode cX1_name 89 = .ok (.invokevirtual 122, 3) := by decide +kernel
theorem dX1_name_92 : decode cX1_name 92 = .ok (.ireturn, 1) := by decide +kernel
theorem dX1_name_93 : decode cX1_name 93 = .ok (.aload_n 0, 1) := by decide +kernel
theorem dX1_name_94 : decode cX1_name 94 = .ok (.getfield 10, 3) := by decide +kernel
theorem dX1_name_97 : decode cX1_name 97 = .ok (.getfield 125, 3) := by decide +kernel
theorem dX1_name_100 : decode cX1_name 100 = .ok (.iload_n 1, 1) := by decide +kernel
theorem dX1_name_101 : decode cX1_name 101 = .ok (.iaload, 1) := by decide +kernel
theorem dX1_name_102 : decode cX1_name 102 = .ok (.ireturn, 1) := by decide +kernel
theorem dX1_name_103 : decode cX1_name 103 = .ok (.aload_n 0, 1) := by decide +kernel
theorem dX1_name_104 : decode cX1_name 104 = .ok (.getfield 10, 3) := by decide +kernel
theorem dX1_name_107 : decode cX1_name 107 = .ok (.getfield 128, 3) := by decide +kernel
theorem dX1_name_110 : decode cX1_name 110 = .ok (.iload_n 1, 1) := by decide +kernel
theorem dX1_name_111 : decode cX1_name 111 = .ok (.iaload, 1) := by decide +kernel
theorem dX1_name_112 : decode cX1_name 112 = .ok (.ireturn, 1) := by decide +kernel
theorem dX1_name_113 : decode cX1_name 113 = .ok (.aload_n 0, 1) := by decide +kernel
theorem dX1_name_114 : decode cX1_name 114 = .ok (.getfield 10, 3) := by decide +kernel
theorem dX1_name_117 : decode cX1_name 117 = .ok (.getfield 131, 3) := by decide +kernel
theorem dX1_name_120 : decode cX1_name 120 = .ok (.iload_n 1, 1) := by decide +kernel
theorem dX1_name_121 : decode cX1_name 121 = .ok (.iaload, 1) := by decide +kernel
theorem dX1_name_122 : decode cX1_name 122 = .ok (.ireturn, 1) := by decide +kernel
theorem dX1_name_123 : decode cX1_name 123 = .ok (.bipush (-2), 2) := by decide +kernel
theorem dX1_name_125 : decode cX1_name 125 = .ok (.ireturn, 1) := by decide +kernel
set_option maxRecDepth 20000 in
theorem ggX1_alike_X0_hasName : GoodIn wsX1_alike wsX0_hasName := goodIn_r _ [7, 8, 35, 36, 37, 38, 39, 40, 41, 42, 43, 44, 45, 46, 47, 48, 49, 50] (by decide +kernel) (by decide +kernel)
set_option maxRecDepth 20000 in
theorem gX1_alike_X0_hasName : GoodIn wsX1_alike (wsV RX1 69 RX0 yX0_hasName wsX0_hasName) := goodIn_app (goodIn_of _ (by decide +kernel)) ggX1_alike_X0_hasName
set_option maxRecDepth 20000 in
theorem ggX1_alike_X0_alikeByLetters : GoodIn wsX1_alike wsX0_alikeByLetters := goodIn_r _ [12, 13, 14, 15, 16, 6, 17, 18, 19, 20, 21, 22, 23, 24, 25, 26, 35, 36, 37, 38, 39, 40, 41, 42, 43, 44, 45, 46, 47, 48, 49, 50] (by decide +kernel) (by decide +kernel)
set_option maxRecDepth 20000 in
theorem gX1_alike_X0_alikeByLetters : GoodIn wsX1_alike (wsV RX1 134 RX0 yX0_alikeByLetters wsX0_alikeByLetters) := goodIn_app (goodIn_of _ (by decide +kernel)) ggX1_alike_X0_alikeByLetters
theorem dX1_alike_0 : decode cX1_alike 0 = .ok (.aload_n 0, 1) := by decide +kernel
theorem dX1_alike_1 : decode cX1_alike 1 = .ok (.getfield 10, 3) := by decide +kernel
theorem dX1_alike_4 : decode cX1_alike 4 = .ok (.iload_n 1, 1) := by decide +kernel
theorem dX1_alike_5 : decode cX1_alike 5 = .ok (.invokevirtual 69, 3) := by decide +kernel
theorem dX1_alike_8 : decode cX1_alike 8 = .ok (.ifCond .eq 14, 3) := by decide +kernel
theorem dX1_alike_11 : decode cX1_alike 11 = .ok (.aload_n 0, 1) := by decide +kernel
theorem dX1_alike_12 : decode cX1_alike 12 = .ok (.getfield 10, 3) := by decide +kernel
theorem dX1_alike_15 : decode cX1_alike 15 = .ok (.iload_n 2, 1) := by decide +kernel
theorem dX1_alike_16 : decode cX1_alike 16 = .ok (.invokevirtual 69, 3) := by decide +kernel
theorem dX1_alike_19 : decode cX1_alike 19 = .ok (.ifCond .ne 5, 3) := by decide +kernel
theorem dX1_alike_22 : decode cX1_alike 22 = .ok (.iconst (-1), 1) := by decide +kernel
theorem dX1_alike_23 : decode cX1_alike 23 = .ok (.ireturn, 1) := by decide +kernel
theorem dX1_alike_24 : decode cX1_alike 24 = .ok (.iload_n 3, 1) := by decide +kernel
theorem dX1_alike_25 : decode cX1_alike 25 = .ok (.lookupswitch 72 #[(0, 27), (1, 54)], 27) := by decide +kernel
theorem dX1_alike_52 : decode cX1_alike 52 = .ok (.aload_n 0, 1) := by decide +kernel
theorem dX1_alike_53 : decode cX1_alike 53 = .ok (.getfield 10, 3) := by decide +kernel
theorem dX1_alike_56 : decode cX1_alike 56 = .ok (.getfield 125, 3) := by decide +kernel
theorem dX1_alike_59 : decode cX1_alike 59 = .ok (.iload_n 1, 1) := by decide +kernel
theorem dX1_alike_60 : decode cX1_alike 60 = .ok (.iaload, 1) := by decide +kernel
theorem dX1_alike_61 : decode cX1_alike 61 = .ok (.aload_n 0, 1) := by decide +kernel
theorem dX1_alike_62 : decode cX1_alike 62 = .ok (.getfield 10, 3) := by decide +kernel
theorem dX1_alike_65 : decode cX1_alike 65 = .ok (.getfield 125, 3) := by decide +kernel
theorem dX1_alike_68 : decode cX1_alike 68 = .ok (.iload_n 2, 1) := by decide +kernel
theorem dX1_alike_69 : decode cX1_alike 69 = .ok (.iaload, 1) := by decide +kernel
theorem dX1_alike_70 : decode cX1_alike 70 = .ok (.if_icmp .ne 7, 3) := by decide +kernel
theorem dX1_alike_73 : decode cX1_alike 73 = .ok (.iconst 1, 1) := by decide +kernel
theorem dX1_alike_74 : decode cX1_alike 74 = .ok (.goto 4, 3) := by decide +kernel
theorem dX1_alike_77 : decode cX1_alike 77 = .ok (.iconst 0, 1) := by decide +kernel
theorem dX1_alike_78 : decode cX1_alike 78 = .ok (.ireturn, 1) := by decide +kernel
theorem dX1_alike_79 : decode cX1_alike 79 = .ok (.aload_n 0, 1) := by decide +kernel
theorem dX1_alike_80 : decode cX1_alike 80 = .ok (.getfield 10, 3) := by decide +kernel
theorem dX1_alike_83 : decode cX1_alike 83 = .ok (.iload_n 1, 1) := by decide +kernel
theorem dX1_alike_84 : decode cX1_alike 84 = .ok (.iload_n 2, 1) := by decide +kernel
theorem dX1_alike_85 : decode cX1_alike 85 = .ok (.invokevirtual 134, 3) := by decide +kernel
theorem dX1_alike_88 : decode cX1_alike 88 = .ok (.ifCond .eq 7, 3) := by decide +kernel
theorem dX1_alike_91 : decode cX1_alike 91 = .ok (.iconst 1, 1) := by decide +kernel
theorem dX1_alike_92 : decode cX1_alike 92 = .ok (.goto 4, 3) := by decide +kernel
theorem dX1_alike_95 : decode cX1_alike 95 = .ok (.iconst 0, 1) := by decide +kernel
theorem dX1_alike_96 : decode cX1_alike 96 = .ok (.ireturn, 1) := by decide +kernel
theorem dX1_alike_97 : decode cX1_alike 97 = .ok (.bipush (-2), 2) := by decide +kernel
theorem dX1_alike_99 : decode cX1_alike 99 = .ok (.ireturn, 1) := by decide +kernel
set_option maxRecDepth 20000 in
theorem ggX1_corner_X1_isCorner : GoodIn wsX1_corner wsX1_isCorner := goodIn_r _ [11] (by decide +kernel) (by decide +kernel)
set_option maxRecDepth 20000 in
theorem gX1_corner_X1_isCorner : GoodIn wsX1_corner (va_wsS RX1 83 yX1_isCorner wsX1_isCorner) := goodIn_app (goodIn_of _ (by decide +kernel)) ggX1_corner_X1_isCorner
theorem dX1_corner_0 : decode cX1_corner 0 = .ok (.iload_n 1, 1) := by decide +kernel
theorem dX1_corner_1 : decode cX1_corner 1 = .ok (.invokestatic 83, 3) := by decide +kernel
theorem dX1_corner_4 : decode cX1_corner 4 = .ok (.ifCond .ne 5, 3) := by decide +kernel
theorem dX1_corner_7 : decode cX1_corner 7 = .ok (.iconst (-1), 1) := by decide +kernel
theorem dX1_corner_8 : decode cX1_corner 8 = .ok (.ireturn, 1) := by decide +kernel
theorem dX1_corner_9 : decode cX1_corner 9 = .ok (.iload_n 2, 1) := by decide +kernel
theorem dX1_corner_10 : decode cX1_corner 10 = .ok (.tableswitch 117 0 5 #[38, 48, 58, 68, 97, 107], 38) := by decide +kernel
theorem dX1_corner_48 : decode cX1_corner 48 = .ok (.aload_n 0, 1) := by decide +kernel
theorem dX1_corner_49 : decode cX1_corner 49 = .ok (.getfield 10, 3) := by decide +kernel
theorem dX1_corner_52 : decode cX1_corner 52 = .ok (.getfield 97, 3) := by decide +kernel
theorem dX1_corner_55 : decode cX1_corner 55 = .ok (.iload_n 1, 1) := by decide +kernel
theorem dX1_corner_56 : decode cX1_corner 56 = .ok (.iaload, 1) := by decide +kernel
theorem dX1_corner_57 : decode cX1_corner 57 = .ok (.ireturn, 1) := by decide +kernel
theorem dX1_corner_58 : decode cX1_corner 58 = .ok (.aload_n 0, 1) := by decide +kernel
theorem dX1_corner_59 : decode cX1_corner 59 = .ok (.getfield 10, 3) := by decide +kernel
theorem dX1_corner_62 : decode cX1_corner 62 = .ok (.getfield 94, 3) := by decide +kernel
theorem dX1_corner_65 : decode cX1_corner 65 = .ok (.iload_n 1, 1) := by decide +kernel
theorem dX1_corner_66 : decode cX1_corner 66 = .ok (.iaload, 1) := by decide +kernel
theorem dX1_corner_67 : decode cX1_corner 67 = .ok (.ireturn, 1) := by decide +kernel
theorem dX1_corner_68 : decode cX1_corner 68 = .ok (.aload_n 0, 1) := by decide +kernel
theorem dX1_corner_69 : decode cX1_corner 69 = .ok (.getfield 10, 3) := by decide +kernel
theorem dX1_corner_72 : decode cX1_corner 72 = .ok (.getfield 138, 3) := by decide +kernel
theorem dX1_corner_75 : decode cX1_corner 75 = .ok (.iload_n 1, 1) := by decide +kernel
theorem dX1_corner_76 : decode cX1_corner 76 = .ok (.iaload, 1) := by decide +kernel
theorem dX1_corner_77 : decode cX1_corner 77 = .ok (.ireturn, 1) := by decide +kernel
theorem dX1_corner_78 : decode cX1_corner 78 = .ok (.aload_n 0, 1) := by decide +kernel
theorem dX1_corner_79 : decode cX1_corner 79 = .ok (.getfield 10, 3) := by decide +kernel
theorem dX1_corner_82 : decode cX1_corner 82 = .ok (.getfield 97, 3) := by decide +kernel
theorem dX1_corner_85 : decode cX1_corner 85 = .ok (.iload_n 1, 1) := by decide +kernel
theorem dX1_corner_86 : decode cX1_corner 86 = .ok (.iaload, 1) := by decide +kernel
theorem dX1_corner_87 : decode cX1_corner 87 = .ok (.bipush (-6), 2) := by decide +kernel
theorem dX1_corner_89 : decode cX1_corner 89 = .ok (.if_icmp .ne 8, 3) := by decide +kernel
theorem dX1_corner_92 : decode cX1_corner 92 = .ok (.bipush (-6), 2) := by decide +kernel
theorem dX1_corner_94 : decode cX1_corner 94 = .ok (.goto 12, 3) := by decide +kernel
theorem dX1_corner_97 : decode cX1_corner 97 = .ok (.aload_n 0, 1) := by decide +kernel
theorem dX1_corner_98 : decode cX1_corner 98 = .ok (.getfield 10, 3) := by decide +kernel
theorem dX1_corner_101 : decode cX1_corner 101 = .ok (.getfield 141, 3) := by decide +kernel
theorem dX1_corner_104 : decode cX1_corner 104 = .ok (.iload_n 1, 1) := by decide +kernel
theorem dX1_corner_105 : decode cX1_corner 105 = .ok (.iaload, 1) := by decide +kernel
theorem dX1_corner_106 : decode cX1_corner 106 = .ok (.ireturn, 1) := by decide +kernel
theorem dX1_corner_107 : decode cX1_corner 107 = .ok (.aload_n 0, 1) := by decide +kernel
theorem dX1_corner_108 : decode cX1_corner 108 = .ok (.getfield 10, 3) := by decide +kernel
theorem dX1_corner_111 : decode cX1_corner 111 = .ok (.getfield 144, 3) := by decide +kernel
theorem dX1_corner_114 : decode cX1_corner 114 = .ok (.iload_n 1, 1) := by decide +kernel
theorem dX1_corner_115 : decode cX1_corner 115 = .ok (.iaload, 1) := by decide +kernel
theorem dX1_corner_116 : decode cX1_corner 116 = .ok (.ireturn, 1) := by decide +kernel
theorem dX1_corner_117 : decode cX1_corner 117 = .ok (.aload_n 0, 1) := by decide +kernel
theorem dX1_corner_118 : decode cX1_corner 118 = .ok (.getfield 10, 3) := by decide +kernel
theorem dX1_corner_121 : decode cX1_corner 121 = .ok (.getfield 147, 3) := by decide +kernel
theorem dX1_corner_124 : decode cX1_corner 124 = .ok (.iload_n 1, 1) := by decide +kernel
theorem dX1_corner_125 : decode cX1_corner 125 = .ok (.iaload, 1) := by decide +kernel
theorem dX1_corner_126 : decode cX1_corner 126 = .ok (.ireturn, 1) := by decide +kernel
theorem dX1_corner_127 : decode cX1_corner 127 = .ok (.bipush (-2), 2) := by decide +kernel
theorem dX1_corner_129 : decode cX1_corner 129 = .ok (.ireturn, 1) := by decide +kernel
set_option maxRecDepth 20000 in
theorem ggX1_why_X0_hasName : GoodIn wsX1_why wsX0_hasName := goodIn_r _ [6, 7, 59, 60, 61, 62, 63, 64, 65, 66, 67, 68, 69, 70, 71, 72, 73, 74] (by decide +kernel) (by decide +kernel)
set_option maxRecDepth 20000 in
theorem gX1_why_X0_hasName : GoodIn wsX1_why (wsV RX1 69 RX0 yX0_hasName wsX0_hasName) := goodIn_app (goodIn_of _ (by decide +kernel)) ggX1_why_X0_hasName
set_option maxRecDepth 20000 in
theorem ggX1_why_X1_isCorner : GoodIn wsX1_why wsX1_isCorner := goodIn_r _ [11] (by decide +kernel) (by decide +kernel)
set_option maxRecDepth 20000 in
theorem gX1_why_X1_isCorner : GoodIn wsX1_why (va_wsS RX1 83 yX1_isCorner wsX1_isCorner) := goodIn_app (goodIn_of _ (by decide +kernel)) ggX1_why_X1_isCorner
set_option maxRecDepth 20000 in
theorem ggX1_why_X0_refusal : GoodIn wsX1_why wsX0_refusal := goodIn_r _ [15, 16, 17, 18, 5, 19, 20, 21, 22, 23, 24, 25, 26, 27, 28, 29, 30, 3, 4, 6, 7, 31, 32, 33, 34, 35, 36, 37, 38, 39, 40, 41, 42, 43, 44, 45, 46, 47, 48, 49, 50, 59, 60, 61, 62, 63, 64, 65, 66, 67, 68, 69, 70, 71, 72, 73, 74] (by decide +kernel) (by decide +kernel)
set_option maxRecDepth 20000 in
theorem gX1_why_X0_refusal : GoodIn wsX1_why (wsV RX1 86 RX0 yX0_refusal wsX0_refusal) := goodIn_app (goodIn_of _ (by decide +kernel)) ggX1_why_X0_refusal
theorem dX1_why_0 : decode cX1_why 0 = .ok (.aload_n 0, 1) := by decide +kernel
theorem dX1_why_1 : decode cX1_why 1 = .ok (.getfield 10, 3) := by decide +kernel
theorem dX1_why_4 : decode cX1_why 4 = .ok (.iload_n 1, 1) := by decide +kernel
theorem dX1_why_5 : decode cX1_why 5 = .ok (.invokevirtual 69, 3) := by decide +kernel
theorem dX1_why_8 : decode cX1_why 8 = .ok (.ifCond .eq 10, 3) := by decide +kernel
theorem dX1_why_11 : decode cX1_why 11 = .ok (.iload_n 2, 1) := by decide +kernel
theorem dX1_why_12 : decode cX1_why 12 = .ok (.invokestatic 83, 3) := by decide +kernel
theorem dX1_why_15 : decode cX1_why 15 = .ok (.ifCond .ne 5, 3) := by decide +kernel
theorem dX1_why_18 : decode cX1_why 18 = .ok (.iconst (-1), 1) := by decide +kernel
theorem dX1_why_19 : decode cX1_why 19 = .ok (.ireturn, 1) := by decide +kernel
theorem dX1_why_20 : decode cX1_why 20 = .ok (.aload_n 0, 1) := by decide +kernel
theorem dX1_why_21 : decode cX1_why 21 = .ok (.getfield 10, 3) := by decide +kernel
theorem dX1_why_24 : decode cX1_why 24 = .ok (.iload_n 1, 1) := by decide +kernel
theorem dX1_why_25 : decode cX1_why 25 = .ok (.iload_n 2, 1) := by decide +kernel
theorem dX1_why_26 : decode cX1_why 26 = .ok (.invokevirtual 86, 3) := by decide +kernel
theorem dX1_why_29 : decode cX1_why 29 = .ok (.ireturn, 1) := by decide +kernel
set_option maxRecDepth 20000 in
theorem ggX1_count_X0_waitingNames : GoodIn wsX1_count wsX0_waitingNames := goodIn_r _ [14, 15, 16, 17, 18, 13, 19, 20, 21, 22, 23, 24, 25, 26, 27, 28, 29, 65, 66, 67, 68, 69, 70, 71, 72, 73, 74, 75, 76, 77, 78, 79, 80] (by decide +kernel) (by decide +kernel)
set_option maxRecDepth 20000 in
theorem gX1_count_X0_waitingNames : GoodIn wsX1_count (wsV RX1 150 RX0 yX0_waitingNames wsX0_waitingNames) := goodIn_app (goodIn_of _ (by decide +kernel)) ggX1_count_X0_waitingNames
set_option maxRecDepth 20000 in
theorem ggX1_count_X0_bearingCorners : GoodIn wsX1_count wsX0_bearingCorners := goodIn_r _ [33, 25, 26, 27, 13, 28, 29, 65, 66, 67, 68, 69, 70, 71, 72, 73, 74, 75, 76, 77, 78, 79, 80] (by decide +kernel) (by decide +kernel)
set_option maxRecDepth 20000 in
theorem gX1_count_X0_bearingCorners : GoodIn wsX1_count (wsV RX1 153 RX0 yX0_bearingCorners wsX0_bearingCorners) := goodIn_app (goodIn_of _ (by decide +kernel)) ggX1_count_X0_bearingCorners
set_option maxRecDepth 20000 in
theorem ggX1_count_X1_sum : GoodIn wsX1_count wsX1_sum := goodIn_r _ [37] (by decide +kernel) (by decide +kernel)
set_option maxRecDepth 20000 in
theorem gX1_count_X1_sum : GoodIn wsX1_count (va_wsS RX1 156 yX1_sum wsX1_sum) := goodIn_app (goodIn_of _ (by decide +kernel)) ggX1_count_X1_sum
set_option maxRecDepth 20000 in
theorem ggX1_count_X0_wrongOnMap : GoodIn wsX1_count wsX0_wrongOnMap := goodIn_r _ [41, 42, 43, 29, 65, 66, 67, 68, 69, 70, 71, 72, 73, 74, 75, 76, 77, 78, 79, 80] (by decide +kernel) (by decide +kernel)
set_option maxRecDepth 20000 in
theorem gX1_count_X0_wrongOnMap : GoodIn wsX1_count (wsV RX1 104 RX0 yX0_wrongOnMap wsX0_wrongOnMap) := goodIn_app (goodIn_of _ (by decide +kernel)) ggX1_count_X0_wrongOnMap
set_option maxRecDepth 20000 in
theorem ggX1_count_X0_punPairs : GoodIn wsX1_count wsX0_punPairs := goodIn_r _ [47, 29, 48, 49, 50, 13, 51, 52, 53, 54, 55, 56, 15, 65, 66, 67, 68, 69, 70, 71, 72, 73, 74, 75, 76, 77, 78, 79, 80] (by decide +kernel) (by decide +kernel)
set_option maxRecDepth 20000 in
theorem gX1_count_X0_punPairs : GoodIn wsX1_count (wsV RX1 160 RX0 yX0_punPairs wsX0_punPairs) := goodIn_app (goodIn_of _ (by decide +kernel)) ggX1_count_X0_punPairs
theorem dX1_count_0 : decode cX1_count 0 = .ok (.iload_n 1, 1) := by decide +kernel
theorem dX1_count_1 : decode cX1_count 1 = .ok (.tableswitch 176 0 14 #[75, 75, 75, 75, 85, 93, 101, 109, 117, 128, 139, 150, 158, 166, 171], 75) := by decide +kernel
theorem dX1_count_76 : decode cX1_count 76 = .ok (.aload_n 0, 1) := by decide +kernel
theorem dX1_count_77 : decode cX1_count 77 = .ok (.getfield 10, 3) := by decide +kernel
theorem dX1_count_80 : decode cX1_count 80 = .ok (.getfield 44, 3) := by decide +kernel
theorem dX1_count_83 : decode cX1_count 83 = .ok (.iload_n 1, 1) := by decide +kernel
theorem dX1_count_84 : decode cX1_count 84 = .ok (.iaload, 1) := by decide +kernel
theorem dX1_count_85 : decode cX1_count 85 = .ok (.ireturn, 1) := by decide +kernel
theorem dX1_count_86 : decode cX1_count 86 = .ok (.aload_n 0, 1) := by decide +kernel
theorem dX1_count_87 : decode cX1_count 87 = .ok (.getfield 10, 3) := by decide +kernel
theorem dX1_count_90 : decode cX1_count 90 = .ok (.getfield 110, 3) := by decide +kernel
theorem dX1_count_93 : decode cX1_count 93 = .ok (.ireturn, 1) := by decide +kernel
theorem dX1_count_94 : decode cX1_count 94 = .ok (.aload_n 0, 1) := by decide +kernel
theorem dX1_count_95 : decode cX1_count 95 = .ok (.getfield 10, 3) := by decide +kernel
theorem dX1_count_98 : decode cX1_count 98 = .ok (.getfield 51, 3) := by decide +kernel
theorem dX1_count_101 : decode cX1_count 101 = .ok (.ireturn, 1) := by decide +kernel
theorem dX1_count_102 : decode cX1_count 102 = .ok (.aload_n 0, 1) := by decide +kernel
theorem dX1_count_103 : decode cX1_count 103 = .ok (.getfield 10, 3) := by decide +kernel
theorem dX1_count_106 : decode cX1_count 106 = .ok (.invokevirtual 150, 3) := by decide +kernel
theorem dX1_count_109 : decode cX1_count 109 = .ok (.ireturn, 1) := by decide +kernel
theorem dX1_count_110 : decode cX1_count 110 = .ok (.aload_n 0, 1) := by decide +kernel
theorem dX1_count_111 : decode cX1_count 111 = .ok (.getfield 10, 3) := by decide +kernel
theorem dX1_count_114 : decode cX1_count 114 = .ok (.invokevirtual 153, 3) := by decide +kernel
theorem dX1_count_117 : decode cX1_count 117 = .ok (.ireturn, 1) := by decide +kernel
theorem dX1_count_118 : decode cX1_count 118 = .ok (.aload_n 0, 1) := by decide +kernel
theorem dX1_count_119 : decode cX1_count 119 = .ok (.getfield 10, 3) := by decide +kernel
theorem dX1_count_122 : decode cX1_count 122 = .ok (.getfield 94, 3) := by decide +kernel
theorem dX1_count_125 : decode cX1_count 125 = .ok (.invokestatic 156, 3) := by decide +kernel
theorem dX1_count_128 : decode cX1_count 128 = .ok (.ireturn, 1) := by decide +kernel
theorem dX1_count_129 : decode cX1_count 129 = .ok (.aload_n 0, 1) := by decide +kernel
theorem dX1_count_130 : decode cX1_count 130 = .ok (.getfield 10, 3) := by decide +kernel
theorem dX1_count_133 : decode cX1_count 133 = .ok (.getfield 138, 3) := by decide +kernel
theorem dX1_count_136 : decode cX1_count 136 = .ok (.invokestatic 156, 3) := by decide +kernel
theorem dX1_count_139 : decode cX1_count 139 = .ok (.ireturn, 1) := by decide +kernel
theorem dX1_count_140 : decode cX1_count 140 = .ok (.aload_n 0, 1) := by decide +kernel
theorem dX1_count_141 : decode cX1_count 141 = .ok (.getfield 10, 3) := by decide +kernel
theorem dX1_count_144 : decode cX1_count 144 = .ok (.getfield 131, 3) := by decide +kernel
theorem dX1_count_147 : decode cX1_count 147 = .ok (.invokestatic 156, 3) := by decide +kernel
theorem dX1_count_150 : decode cX1_count 150 = .ok (.ireturn, 1) := by decide +kernel
theorem dX1_count_151 : decode cX1_count 151 = .ok (.aload_n 0, 1) := by decide +kernel
theorem dX1_count_152 : decode cX1_count 152 = .ok (.getfield 10, 3) := by decide +kernel
theorem dX1_count_155 : decode cX1_count 155 = .ok (.invokevirtual 104, 3) := by decide +kernel
theorem dX1_count_158 : decode cX1_count 158 = .ok (.ireturn, 1) := by decide +kernel
theorem dX1_count_159 : decode cX1_count 159 = .ok (.aload_n 0, 1) := by decide +kernel
theorem dX1_count_160 : decode cX1_count 160 = .ok (.getfield 10, 3) := by decide +kernel
theorem dX1_count_163 : decode cX1_count 163 = .ok (.invokevirtual 160, 3) := by decide +kernel
theorem dX1_count_166 : decode cX1_count 166 = .ok (.ireturn, 1) := by decide +kernel
theorem dX1_count_167 : decode cX1_count 167 = .ok (.aload_n 0, 1) := by decide +kernel
theorem dX1_count_168 : decode cX1_count 168 = .ok (.getfield 58, 3) := by decide +kernel
theorem dX1_count_171 : decode cX1_count 171 = .ok (.ireturn, 1) := by decide +kernel
theorem dX1_count_172 : decode cX1_count 172 = .ok (.aload_n 0, 1) := by decide +kernel
theorem dX1_count_173 : decode cX1_count 173 = .ok (.getfield 163, 3) := by decide +kernel
theorem dX1_count_176 : decode cX1_count 176 = .ok (.ireturn, 1) := by decide +kernel
theorem dX1_count_177 : decode cX1_count 177 = .ok (.bipush (-2), 2) := by decide +kernel
theorem dX1_count_179 : decode cX1_count 179 = .ok (.ireturn, 1) := by decide +kernel
set_option maxRecDepth 20000 in
theorem ggX1_bestCorner_X0_hasName : GoodIn wsX1_bestCorner wsX0_hasName := goodIn_r _ [6, 7, 55, 56, 57, 58, 59, 60, 61, 62, 63, 64, 65, 66, 67, 68, 69, 70] (by decide +kernel) (by decide +kernel)
set_option maxRecDepth 20000 in
theorem gX1_bestCorner_X0_hasName : GoodIn wsX1_bestCorner (wsV RX1 69 RX0 yX0_hasName wsX0_hasName) := goodIn_app (goodIn_of _ (by decide +kernel)) ggX1_bestCorner_X0_hasName
set_option maxRecDepth 20000 in
theorem ggX1_bestCorner_X0_lowestFree : GoodIn wsX1_bestCorner wsX0_lowestFree := goodIn_r _ [11, 12, 13, 14, 5, 15, 16, 17, 18, 19, 20, 21, 22, 23, 24, 25, 26, 3, 4, 6, 7, 27, 28, 29, 30, 31, 32, 33, 34, 35, 36, 37, 38, 39, 40, 41, 42, 43, 44, 45, 46, 55, 56, 57, 58, 59, 60, 61, 62, 63, 64, 65, 66, 67, 68, 69, 70] (by decide +kernel) (by decide +kernel)
set_option maxRecDepth 20000 in
theorem gX1_bestCorner_X0_lowestFree : GoodIn wsX1_bestCorner (wsV RX1 166 RX0 yX0_lowestFree wsX0_lowestFree) := goodIn_app (goodIn_of _ (by decide +kernel)) ggX1_bestCorner_X0_lowestFree
theorem dX1_bestCorner_0 : decode cX1_bestCorner 0 = .ok (.aload_n 0, 1) := by decide +kernel
theorem dX1_bestCorner_1 : decode cX1_bestCorner 1 = .ok (.getfield 10, 3) := by decide +kernel
theorem dX1_bestCorner_4 : decode cX1_bestCorner 4 = .ok (.iload_n 1, 1) := by decide +kernel
theorem dX1_bestCorner_5 : decode cX1_bestCorner 5 = .ok (.invokevirtual 69, 3) := by decide +kernel
theorem dX1_bestCorner_8 : decode cX1_bestCorner 8 = .ok (.ifCond .ne 5, 3) := by decide +kernel
theorem dX1_bestCorner_11 : decode cX1_bestCorner 11 = .ok (.iconst (-1), 1) := by decide +kernel
theorem dX1_bestCorner_12 : decode cX1_bestCorner 12 = .ok (.ireturn, 1) := by decide +kernel
theorem dX1_bestCorner_13 : decode cX1_bestCorner 13 = .ok (.aload_n 0, 1) := by decide +kernel
theorem dX1_bestCorner_14 : decode cX1_bestCorner 14 = .ok (.getfield 10, 3) := by decide +kernel
theorem dX1_bestCorner_17 : decode cX1_bestCorner 17 = .ok (.iload_n 1, 1) := by decide +kernel
theorem dX1_bestCorner_18 : decode cX1_bestCorner 18 = .ok (.invokevirtual 166, 3) := by decide +kernel
theorem dX1_bestCorner_21 : decode cX1_bestCorner 21 = .ok (.ireturn, 1) := by decide +kernel
set_option maxRecDepth 20000 in
theorem ggX1_untilBorne_X0_hasName : GoodIn wsX1_untilBorne wsX0_hasName := goodIn_r _ [7, 8, 117, 118, 119, 120, 121, 122, 123, 124, 125, 126, 127, 128, 129, 130, 131, 132] (by decide +kernel) (by decide +kernel)
set_option maxRecDepth 20000 in
theorem gX1_untilBorne_X0_hasName : GoodIn wsX1_untilBorne (wsV RX1 69 RX0 yX0_hasName wsX0_hasName) := goodIn_app (goodIn_of _ (by decide +kernel)) ggX1_untilBorne_X0_hasName
set_option maxRecDepth 20000 in
theorem ggX1_untilBorne_X0_bearers : GoodIn wsX1_untilBorne wsX0_bearers := goodIn_r _ [12, 13, 117, 118, 119, 120, 121, 122, 123, 124, 125, 126, 127, 128, 129, 130, 131, 132] (by decide +kernel) (by decide +kernel)
set_option maxRecDepth 20000 in
theorem gX1_untilBorne_X0_bearers : GoodIn wsX1_untilBorne (wsV RX1 169 RX0 yX0_bearers wsX0_bearers) := goodIn_app (goodIn_of _ (by decide +kernel)) ggX1_untilBorne_X0_bearers
set_option maxRecDepth 20000 in
theorem ggX1_untilBorne_X1_copy : GoodIn wsX1_untilBorne wsX1_copy := goodIn_r _ [17, 18, 19, 20, 21, 22, 23, 24, 25, 26, 27, 28, 29, 30, 31, 32, 33, 34, 35, 36, 37, 38, 39, 40, 41, 42, 43, 16, 44, 117, 118, 119, 120, 121, 122, 123, 124, 125, 126, 127, 128, 129, 130, 131, 132] (by decide +kernel) (by decide +kernel)
set_option maxRecDepth 20000 in
theorem gX1_untilBorne_X1_copy : GoodIn wsX1_untilBorne (va_wsS RX1 172 yX1_copy wsX1_copy) := goodIn_app (goodIn_of _ (by decide +kernel)) ggX1_untilBorne_X1_copy
set_option maxRecDepth 20000 in
theorem ggX1_untilBorne_X0_live : GoodIn wsX1_untilBorne wsX0_live := goodIn_r _ [48, 49, 50, 51, 52, 6, 53, 8, 54, 55, 56, 57, 58, 59, 60, 61, 62, 63, 64, 10, 11, 12, 13, 65, 66, 67, 68, 69, 70, 71, 72, 73, 74, 75, 76, 77, 78, 4, 5, 7, 79, 80, 81, 82, 83, 84, 85, 24, 86, 87, 23, 25, 88, 89, 90, 91, 92, 93, 94, 95, 96, 97, 98, 99, 100, 101, 102, 103, 104, 105, 106, 107, 108, 117, 118, 119, 120, 121, 122, 123, 124, 125, 126, 127, 128, 129, 130, 131, 132] (by decide +kernel) (by decide +kernel)
set_option maxRecDepth 20000 in
theorem gX1_untilBorne_X0_live : GoodIn wsX1_untilBorne (wsV RX1 113 RX0 yX0_live wsX0_live) := goodIn_app (goodIn_of _ (by decide +kernel)) ggX1_untilBorne_X0_live
theorem dX1_untilBorne_0 : decode cX1_untilBorne 0 = .ok (.aload_n 0, 1) := by decide +kernel
theorem dX1_untilBorne_1 : decode cX1_untilBorne 1 = .ok (.getfield 10, 3) := by decide +kernel
theorem dX1_untilBorne_4 : decode cX1_untilBorne 4 = .ok (.iload_n 1, 1) := by decide +kernel
theorem dX1_untilBorne_5 : decode cX1_untilBorne 5 = .ok (.invokevirtual 69, 3) := by decide +kernel
theorem dX1_untilBorne_8 : decode cX1_untilBorne 8 = .ok (.ifCond .ne 5, 3) := by decide +kernel
theorem dX1_untilBorne_11 : decode cX1_untilBorne 11 = .ok (.iconst (-1), 1) := by decide +kernel
theorem dX1_untilBorne_12 : decode cX1_untilBorne 12 = .ok (.ireturn, 1) := by decide +kernel
theorem dX1_untilBorne_13 : decode cX1_untilBorne 13 = .ok (.aload_n 0, 1) := by decide +kernel
theorem dX1_untilBorne_14 : decode cX1_untilBorne 14 = .ok (.getfield 10, 3) := by decide +kernel
theorem dX1_untilBorne_17 : decode cX1_untilBorne 17 = .ok (.iload_n 1, 1) := by decide +kernel
theorem dX1_untilBorne_18 : decode cX1_untilBorne 18 = .ok (.invokevirtual 169, 3) := by decide +kernel
theorem dX1_untilBorne_21 : decode cX1_untilBorne 21 = .ok (.ifCond .le 5, 3) := by decide +kernel
theorem dX1_untilBorne_24 : decode cX1_untilBorne 24 = .ok (.iconst 0, 1) := by decide +kernel
theorem dX1_untilBorne_25 : decode cX1_untilBorne 25 = .ok (.ireturn, 1) := by decide +kernel
theorem dX1_untilBorne_26 : decode cX1_untilBorne 26 = .ok (.aload_n 0, 1) := by decide +kernel
theorem dX1_untilBorne_27 : decode cX1_untilBorne 27 = .ok (.getfield 10, 3) := by decide +kernel
theorem dX1_untilBorne_30 : decode cX1_untilBorne 30 = .ok (.aload_n 0, 1) := by decide +kernel
theorem dX1_untilBorne_31 : decode cX1_untilBorne 31 = .ok (.getfield 16, 3) := by decide +kernel
theorem dX1_untilBorne_34 : decode cX1_untilBorne 34 = .ok (.invokestatic 172, 3) := by decide +kernel
theorem dX1_untilBorne_37 : decode cX1_untilBorne 37 = .ok (.iconst 1, 1) := by decide +kernel
theorem dX1_untilBorne_38 : decode cX1_untilBorne 38 = .ok (.istore_n 2, 1) := by decide +kernel
theorem dX1_untilBorne_39 : decode cX1_untilBorne 39 = .ok (.iload_n 2, 1) := by decide +kernel
theorem dX1_untilBorne_40 : decode cX1_untilBorne 40 = .ok (.sipush 300, 3) := by decide +kernel
theorem dX1_untilBorne_43 : decode cX1_untilBorne 43 = .ok (.if_icmp .gt 31, 3) := by decide +kernel
theorem dX1_untilBorne_46 : decode cX1_untilBorne 46 = .ok (.aload_n 0, 1) := by decide +kernel
theorem dX1_untilBorne_47 : decode cX1_untilBorne 47 = .ok (.getfield 16, 3) := by decide +kernel
theorem dX1_untilBorne_50 : decode cX1_untilBorne 50 = .ok (.iconst 1, 1) := by decide +kernel
theorem dX1_untilBorne_51 : decode cX1_untilBorne 51 = .ok (.invokevirtual 113, 3) := by decide +kernel
theorem dX1_untilBorne_54 : decode cX1_untilBorne 54 = .ok (.pop, 1) := by decide +kernel
theorem dX1_untilBorne_55 : decode cX1_untilBorne 55 = .ok (.aload_n 0, 1) := by decide +kernel
theorem dX1_untilBorne_56 : decode cX1_untilBorne 56 = .ok (.getfield 16, 3) := by decide +kernel
theorem dX1_untilBorne_59 : decode cX1_untilBorne 59 = .ok (.iload_n 1, 1) := by decide +kernel
theorem dX1_untilBorne_60 : decode cX1_untilBorne 60 = .ok (.invokevirtual 169, 3) := by decide +kernel
theorem dX1_untilBorne_63 : decode cX1_untilBorne 63 = .ok (.ifCond .le 5, 3) := by decide +kernel
theorem dX1_untilBorne_66 : decode cX1_untilBorne 66 = .ok (.iload_n 2, 1) := by decide +kernel
theorem dX1_untilBorne_67 : decode cX1_untilBorne 67 = .ok (.ireturn, 1) := by decide +kernel
theorem dX1_untilBorne_68 : decode cX1_untilBorne 68 = .ok (.iinc 2 1, 3) := by decide +kernel
theorem dX1_untilBorne_71 : decode cX1_untilBorne 71 = .ok (.goto (-32), 3) := by decide +kernel
theorem dX1_untilBorne_74 : decode cX1_untilBorne 74 = .ok (.bipush (-6), 2) := by decide +kernel
theorem dX1_untilBorne_76 : decode cX1_untilBorne 76 = .ok (.ireturn, 1) := by decide +kernel
set_option maxRecDepth 20000 in
theorem ggX1_untilPosted_X1_sum : GoodIn wsX1_untilPosted wsX1_sum := goodIn_r _ [7] (by decide +kernel) (by decide +kernel)
set_option maxRecDepth 20000 in
theorem gX1_untilPosted_X1_sum : GoodIn wsX1_untilPosted (va_wsS RX1 156 yX1_sum wsX1_sum) := goodIn_app (goodIn_of _ (by decide +kernel)) ggX1_untilPosted_X1_sum
set_option maxRecDepth 20000 in
theorem ggX1_untilPosted_X1_copy : GoodIn wsX1_untilPosted wsX1_copy := goodIn_r _ [10, 11, 12, 13, 14, 15, 16, 17, 18, 19, 20, 21, 22, 23, 24, 25, 26, 27, 28, 2, 29, 30, 31, 32, 33, 34, 35, 6, 36, 118, 119, 120, 121, 122, 123, 124, 125, 126, 127, 128, 129, 130, 131, 132, 133] (by decide +kernel) (by decide +kernel)
set_option maxRecDepth 20000 in
theorem gX1_untilPosted_X1_copy : GoodIn wsX1_untilPosted (va_wsS RX1 172 yX1_copy wsX1_copy) := goodIn_app (goodIn_of _ (by decide +kernel)) ggX1_untilPosted_X1_copy
set_option maxRecDepth 20000 in
theorem ggX1_untilPosted_X0_live : GoodIn wsX1_untilPosted wsX0_live := goodIn_r _ [41, 42, 43, 44, 45, 40, 46, 47, 48, 49, 50, 51, 52, 53, 54, 55, 56, 57, 58, 59, 60, 61, 62, 63, 64, 65, 66, 67, 68, 69, 70, 71, 72, 73, 74, 75, 76, 77, 78, 79, 80, 81, 82, 83, 84, 85, 86, 17, 87, 88, 16, 18, 89, 90, 91, 92, 93, 94, 95, 96, 97, 98, 99, 100, 101, 102, 103, 104, 105, 106, 107, 108, 109, 118, 119, 120, 121, 122, 123, 124, 125, 126, 127, 128, 129, 130, 131, 132, 133] (by decide +kernel) (by decide +kernel)
set_option maxRecDepth 20000 in
theorem gX1_untilPosted_X0_live : GoodIn wsX1_untilPosted (wsV RX1 113 RX0 yX0_live wsX0_live) := goodIn_app (goodIn_of _ (by decide +kernel)) ggX1_untilPosted_X0_live
theorem dX1_untilPosted_0 : decode cX1_untilPosted 0 = .ok (.aload_n 0, 1) := by decide +kernel
theorem dX1_untilPosted_1 : decode cX1_untilPosted 1 = .ok (.getfield 10, 3) := by decide +kernel
theorem dX1_untilPosted_4 : decode cX1_untilPosted 4 = .ok (.getfield 94, 3) := by decide +kernel
theorem dX1_untilPosted_7 : decode cX1_untilPosted 7 = .ok (.invokestatic 156, 3) := by decide +kernel
theorem dX1_untilPosted_10 : decode cX1_untilPosted 10 = .ok (.ifCond .ne 5, 3) := by decide +kernel
theorem dX1_untilPosted_13 : decode cX1_untilPosted 13 = .ok (.iconst 0, 1) := by decide +kernel
theorem dX1_untilPosted_14 : decode cX1_untilPosted 14 = .ok (.ireturn, 1) := by decide +kernel
theorem dX1_untilPosted_15 : decode cX1_untilPosted 15 = .ok (.aload_n 0, 1) := by decide +kernel
theorem dX1_untilPosted_16 : decode cX1_untilPosted 16 = .ok (.getfield 10, 3) := by decide +kernel
theorem dX1_untilPosted_19 : decode cX1_untilPosted 19 = .ok (.aload_n 0, 1) := by decide +kernel
theorem dX1_untilPosted_20 : decode cX1_untilPosted 20 = .ok (.getfield 16, 3) := by decide +kernel
theorem dX1_untilPosted_23 : decode cX1_untilPosted 23 = .ok (.invokestatic 172, 3) := by decide +kernel
theorem dX1_untilPosted_26 : decode cX1_untilPosted 26 = .ok (.iconst 1, 1) := by decide +kernel
theorem dX1_untilPosted_27 : decode cX1_untilPosted 27 = .ok (.istore_n 1, 1) := by decide +kernel
theorem dX1_untilPosted_28 : decode cX1_untilPosted 28 = .ok (.iload_n 1, 1) := by decide +kernel
theorem dX1_untilPosted_29 : decode cX1_untilPosted 29 = .ok (.sipush 300, 3) := by decide +kernel
theorem dX1_untilPosted_32 : decode cX1_untilPosted 32 = .ok (.if_icmp .gt 33, 3) := by decide +kernel
theorem dX1_untilPosted_35 : decode cX1_untilPosted 35 = .ok (.aload_n 0, 1) := by decide +kernel
theorem dX1_untilPosted_36 : decode cX1_untilPosted 36 = .ok (.getfield 16, 3) := by decide +kernel
theorem dX1_untilPosted_39 : decode cX1_untilPosted 39 = .ok (.iconst 1, 1) := by decide +kernel
theorem dX1_untilPosted_40 : decode cX1_untilPosted 40 = .ok (.invokevirtual 113, 3) := by decide +kernel
theorem dX1_untilPosted_43 : decode cX1_untilPosted 43 = .ok (.pop, 1) := by decide +kernel
theorem dX1_untilPosted_44 : decode cX1_untilPosted 44 = .ok (.aload_n 0, 1) := by decide +kernel
theorem dX1_untilPosted_45 : decode cX1_untilPosted 45 = .ok (.getfield 16, 3) := by decide +kernel
theorem dX1_untilPosted_48 : decode cX1_untilPosted 48 = .ok (.getfield 94, 3) := by decide +kernel
theorem dX1_untilPosted_51 : decode cX1_untilPosted 51 = .ok (.invokestatic 156, 3) := by decide +kernel
theorem dX1_untilPosted_54 : decode cX1_untilPosted 54 = .ok (.ifCond .ne 5, 3) := by decide +kernel
theorem dX1_untilPosted_57 : decode cX1_untilPosted 57 = .ok (.iload_n 1, 1) := by decide +kernel
theorem dX1_untilPosted_58 : decode cX1_untilPosted 58 = .ok (.ireturn, 1) := by decide +kernel
theorem dX1_untilPosted_59 : decode cX1_untilPosted 59 = .ok (.iinc 1 1, 3) := by decide +kernel
theorem dX1_untilPosted_62 : decode cX1_untilPosted 62 = .ok (.goto (-34), 3) := by decide +kernel
theorem dX1_untilPosted_65 : decode cX1_untilPosted 65 = .ok (.bipush (-6), 2) := by decide +kernel
theorem dX1_untilPosted_67 : decode cX1_untilPosted 67 = .ok (.ireturn, 1) := by decide +kernel
set_option maxRecDepth 20000 in
theorem ggX1_ifPassed_X1_copy : GoodIn wsX1_ifPassed wsX1_copy := goodIn_r _ [8, 9, 10, 11, 12, 13, 14, 15, 16, 17, 18, 19, 20, 21, 22, 23, 24, 25, 26, 4, 3, 27, 28, 29, 30, 31, 32, 7, 33, 118, 119, 120, 121, 122, 123, 124, 125, 126, 127, 128, 129, 130, 131, 132, 133] (by decide +kernel) (by decide +kernel)
set_option maxRecDepth 20000 in
theorem gX1_ifPassed_X1_copy : GoodIn wsX1_ifPassed (va_wsS RX1 172 yX1_copy wsX1_copy) := goodIn_app (goodIn_of _ (by decide +kernel)) ggX1_ifPassed_X1_copy
set_option maxRecDepth 20000 in
theorem ggX1_ifPassed_X0_live : GoodIn wsX1_ifPassed wsX0_live := goodIn_r _ [38, 39, 40, 41, 42, 37, 43, 44, 45, 46, 47, 48, 49, 50, 51, 52, 53, 54, 55, 56, 57, 58, 59, 60, 61, 62, 63, 64, 65, 66, 67, 68, 69, 70, 71, 72, 73, 74, 75, 76, 77, 78, 79, 80, 81, 82, 83, 15, 84, 85, 14, 16, 86, 87, 88, 89, 90, 91, 92, 93, 94, 95, 96, 97, 98, 99, 100, 101, 102, 103, 104, 105, 106, 118, 119, 120, 121, 122, 123, 124, 125, 126, 127, 128, 129, 130, 131, 132, 133] (by decide +kernel) (by decide +kernel)
set_option maxRecDepth 20000 in
theorem gX1_ifPassed_X0_live : GoodIn wsX1_ifPassed (wsV RX1 113 RX0 yX0_live wsX0_live) := goodIn_app (goodIn_of _ (by decide +kernel)) ggX1_ifPassed_X0_live
set_option maxRecDepth 20000 in
theorem ggX1_ifPassed_X1_sum : GoodIn wsX1_ifPassed wsX1_sum := goodIn_r _ [109] (by decide +kernel) (by decide +kernel)
set_option maxRecDepth 20000 in
theorem gX1_ifPassed_X1_sum : GoodIn wsX1_ifPassed (va_wsS RX1 156 yX1_sum wsX1_sum) := goodIn_app (goodIn_of _ (by decide +kernel)) ggX1_ifPassed_X1_sum
theorem dX1_ifPassed_0 : decode cX1_ifPassed 0 = .ok (.iload_n 1, 1) := by decide +kernel
theorem dX1_ifPassed_1 : decode cX1_ifPassed 1 = .ok (.iconst 1, 1) := by decide +kernel
theorem dX1_ifPassed_2 : decode cX1_ifPassed 2 = .ok (.if_icmp .lt 19, 3) := by decide +kernel
theorem dX1_ifPassed_5 : decode cX1_ifPassed 5 = .ok (.iload_n 1, 1) := by decide +kernel
theorem dX1_ifPassed_6 : decode cX1_ifPassed 6 = .ok (.sipush 300, 3) := by decide +kernel
theorem dX1_ifPassed_9 : decode cX1_ifPassed 9 = .ok (.if_icmp .gt 12, 3) := by decide +kernel
theorem dX1_ifPassed_12 : decode cX1_ifPassed 12 = .ok (.iload_n 2, 1) := by decide +kernel
theorem dX1_ifPassed_13 : decode cX1_ifPassed 13 = .ok (.ifCond .lt 8, 3) := by decide +kernel
theorem dX1_ifPassed_16 : decode cX1_ifPassed 16 = .ok (.iload_n 2, 1) := by decide +kernel
theorem dX1_ifPassed_17 : decode cX1_ifPassed 17 = .ok (.iconst 2, 1) := by decide +kernel
theorem dX1_ifPassed_18 : decode cX1_ifPassed 18 = .ok (.if_icmp .le 6, 3) := by decide +kernel
theorem dX1_ifPassed_21 : decode cX1_ifPassed 21 = .ok (.bipush (-2), 2) := by decide +kernel
theorem dX1_ifPassed_23 : decode cX1_ifPassed 23 = .ok (.ireturn, 1) := by decide +kernel
theorem dX1_ifPassed_24 : decode cX1_ifPassed 24 = .ok (.aload_n 0, 1) := by decide +kernel
theorem dX1_ifPassed_25 : decode cX1_ifPassed 25 = .ok (.getfield 10, 3) := by decide +kernel
theorem dX1_ifPassed_28 : decode cX1_ifPassed 28 = .ok (.aload_n 0, 1) := by decide +kernel
theorem dX1_ifPassed_29 : decode cX1_ifPassed 29 = .ok (.getfield 16, 3) := by decide +kernel
theorem dX1_ifPassed_32 : decode cX1_ifPassed 32 = .ok (.invokestatic 172, 3) := by decide +kernel
theorem dX1_ifPassed_35 : decode cX1_ifPassed 35 = .ok (.aload_n 0, 1) := by decide +kernel
theorem dX1_ifPassed_36 : decode cX1_ifPassed 36 = .ok (.getfield 16, 3) := by decide +kernel
theorem dX1_ifPassed_39 : decode cX1_ifPassed 39 = .ok (.iload_n 1, 1) := by decide +kernel
theorem dX1_ifPassed_40 : decode cX1_ifPassed 40 = .ok (.invokevirtual 113, 3) := by decide +kernel
theorem dX1_ifPassed_43 : decode cX1_ifPassed 43 = .ok (.istore_n 3, 1) := by decide +kernel
theorem dX1_ifPassed_44 : decode cX1_ifPassed 44 = .ok (.iload_n 2, 1) := by decide +kernel
theorem dX1_ifPassed_45 : decode cX1_ifPassed 45 = .ok (.ifCond .ne 5, 3) := by decide +kernel
theorem dX1_ifPassed_48 : decode cX1_ifPassed 48 = .ok (.iload_n 3, 1) := by decide +kernel
theorem dX1_ifPassed_49 : decode cX1_ifPassed 49 = .ok (.ireturn, 1) := by decide +kernel
theorem dX1_ifPassed_50 : decode cX1_ifPassed 50 = .ok (.iload_n 2, 1) := by decide +kernel
theorem dX1_ifPassed_51 : decode cX1_ifPassed 51 = .ok (.iconst 1, 1) := by decide +kernel
theorem dX1_ifPassed_52 : decode cX1_ifPassed 52 = .ok (.if_icmp .ne 25, 3) := by decide +kernel
theorem dX1_ifPassed_55 : decode cX1_ifPassed 55 = .ok (.aload_n 0, 1) := by decide +kernel
theorem dX1_ifPassed_56 : decode cX1_ifPassed 56 = .ok (.getfield 16, 3) := by decide +kernel
theorem dX1_ifPassed_59 : decode cX1_ifPassed 59 = .ok (.getfield 138, 3) := by decide +kernel
theorem dX1_ifPassed_62 : decode cX1_ifPassed 62 = .ok (.invokestatic 156, 3) := by decide +kernel
theorem dX1_ifPassed_65 : decode cX1_ifPassed 65 = .ok (.aload_n 0, 1) := by decide +kernel
theorem dX1_ifPassed_66 : decode cX1_ifPassed 66 = .ok (.getfield 10, 3) := by decide +kernel
theorem dX1_ifPassed_69 : decode cX1_ifPassed 69 = .ok (.getfield 138, 3) := by decide +kernel
theorem dX1_ifPassed_72 : decode cX1_ifPassed 72 = .ok (.invokestatic 156, 3) := by decide +kernel
theorem dX1_ifPassed_75 : decode cX1_ifPassed 75 = .ok (.isub, 1) := by decide +kernel
theorem dX1_ifPassed_76 : decode cX1_ifPassed 76 = .ok (.ireturn, 1) := by decide +kernel
theorem dX1_ifPassed_77 : decode cX1_ifPassed 77 = .ok (.aload_n 0, 1) := by decide +kernel
theorem dX1_ifPassed_78 : decode cX1_ifPassed 78 = .ok (.getfield 16, 3) := by decide +kernel
theorem dX1_ifPassed_81 : decode cX1_ifPassed 81 = .ok (.getfield 94, 3) := by decide +kernel
theorem dX1_ifPassed_84 : decode cX1_ifPassed 84 = .ok (.invokestatic 156, 3) := by decide +kernel
theorem dX1_ifPassed_87 : decode cX1_ifPassed 87 = .ok (.ireturn, 1) := by decide +kernel
set_option maxRecDepth 20000 in
theorem ggX1_put_X1_charactersIn : GoodIn wsX1_put wsX1_charactersIn := goodIn_r _ [5, 6, 7, 4, 8, 9] (by decide +kernel) (by decide +kernel)
set_option maxRecDepth 20000 in
theorem gX1_put_X1_charactersIn : GoodIn wsX1_put (va_wsS RX1 176 yX1_charactersIn wsX1_charactersIn) := goodIn_app (goodIn_of _ (by decide +kernel)) ggX1_put_X1_charactersIn
set_option maxRecDepth 20000 in
theorem ggX1_put_X1_codeAt : GoodIn wsX1_put wsX1_codeAt := goodIn_r _ [8, 9] (by decide +kernel) (by decide +kernel)
set_option maxRecDepth 20000 in
theorem gX1_put_X1_codeAt : GoodIn wsX1_put (va_wsS RX1 180 yX1_codeAt wsX1_codeAt) := goodIn_app (goodIn_of _ (by decide +kernel)) ggX1_put_X1_codeAt
set_option maxRecDepth 20000 in
theorem ggX1_put_X1_append : GoodIn wsX1_put wsX1_append := goodIn_r _ [13, 1, 14, 15, 16, 17, 18, 19, 20, 21, 22] (by decide +kernel) (by decide +kernel)
set_option maxRecDepth 20000 in
theorem gX1_put_X1_append : GoodIn wsX1_put (wsV RX1 184 RX1 yX1_append wsX1_append) := goodIn_app (goodIn_of _ (by decide +kernel)) ggX1_put_X1_append
theorem dX1_put_0 : decode cX1_put 0 = .ok (.lload_n 1, 1) := by decide +kernel
theorem dX1_put_1 : decode cX1_put 1 = .ok (.invokestatic 176, 3) := by decide +kernel
theorem dX1_put_4 : decode cX1_put 4 = .ok (.istore_n 3, 1) := by decide +kernel
theorem dX1_put_5 : decode cX1_put 5 = .ok (.iload_n 3, 1) := by decide +kernel
theorem dX1_put_6 : decode cX1_put 6 = .ok (.ifCond .ne 6, 3) := by decide +kernel
theorem dX1_put_9 : decode cX1_put 9 = .ok (.bipush (-2), 2) := by decide +kernel
theorem dX1_put_11 : decode cX1_put 11 = .ok (.ireturn, 1) := by decide +kernel
theorem dX1_put_12 : decode cX1_put 12 = .ok (.aload_n 0, 1) := by decide +kernel
theorem dX1_put_13 : decode cX1_put 13 = .ok (.getfield 58, 3) := by decide +kernel
theorem dX1_put_16 : decode cX1_put 16 = .ok (.iload_n 3, 1) := by decide +kernel
theorem dX1_put_17 : decode cX1_put 17 = .ok (.iadd, 1) := by decide +kernel
theorem dX1_put_18 : decode cX1_put 18 = .ok (.bipush 60, 2) := by decide +kernel
theorem dX1_put_20 : decode cX1_put 20 = .ok (.if_icmp .le 6, 3) := by decide +kernel
theorem dX1_put_23 : decode cX1_put 23 = .ok (.bipush (-4), 2) := by decide +kernel
theorem dX1_put_25 : decode cX1_put 25 = .ok (.ireturn, 1) := by decide +kernel
theorem dX1_put_26 : decode cX1_put 26 = .ok (.iload_n 3, 1) := by decide +kernel
theorem dX1_put_27 : decode cX1_put 27 = .ok (.iconst 1, 1) := by decide +kernel
theorem dX1_put_28 : decode cX1_put 28 = .ok (.isub, 1) := by decide +kernel
theorem dX1_put_29 : decode cX1_put 29 = .ok (.istore 4, 2) := by decide +kernel
theorem dX1_put_31 : decode cX1_put 31 = .ok (.iload 4, 2) := by decide +kernel
theorem dX1_put_33 : decode cX1_put 33 = .ok (.ifCond .lt 20, 3) := by decide +kernel
theorem dX1_put_36 : decode cX1_put 36 = .ok (.aload_n 0, 1) := by decide +kernel
theorem dX1_put_37 : decode cX1_put 37 = .ok (.lload_n 1, 1) := by decide +kernel
theorem dX1_put_38 : decode cX1_put 38 = .ok (.iload 4, 2) := by decide +kernel
theorem dX1_put_40 : decode cX1_put 40 = .ok (.invokestatic 180, 3) := by decide +kernel
theorem dX1_put_43 : decode cX1_put 43 = .ok (.i2c, 1) := by decide +kernel
theorem dX1_put_44 : decode cX1_put 44 = .ok (.invokevirtual 184, 3) := by decide +kernel
theorem dX1_put_47 : decode cX1_put 47 = .ok (.iinc 4 (-1), 3) := by decide +kernel
theorem dX1_put_50 : decode cX1_put 50 = .ok (.goto (-19), 3) := by decide +kernel
theorem dX1_put_53 : decode cX1_put 53 = .ok (.aload_n 0, 1) := by decide +kernel
theorem dX1_put_54 : decode cX1_put 54 = .ok (.getfield 58, 3) := by decide +kernel
theorem dX1_put_57 : decode cX1_put 57 = .ok (.ireturn, 1) := by decide +kernel
theorem dX1_wipe_0 : decode cX1_wipe 0 = .ok (.aload_n 0, 1) := by decide +kernel
theorem dX1_wipe_1 : decode cX1_wipe 1 = .ok (.getfield 58, 3) := by decide +kernel
theorem dX1_wipe_4 : decode cX1_wipe 4 = .ok (.istore_n 1, 1) := by decide +kernel
theorem dX1_wipe_5 : decode cX1_wipe 5 = .ok (.aload_n 0, 1) := by decide +kernel
theorem dX1_wipe_6 : decode cX1_wipe 6 = .ok (.iconst 0, 1) := by decide +kernel
theorem dX1_wipe_7 : decode cX1_wipe 7 = .ok (.putfield 58, 3) := by decide +kernel
theorem dX1_wipe_10 : decode cX1_wipe 10 = .ok (.iload_n 1, 1) := by decide +kernel
theorem dX1_wipe_11 : decode cX1_wipe 11 = .ok (.ireturn, 1) := by decide +kernel
set_option maxRecDepth 20000 in
theorem ggX1_save_X1_isSlot : GoodIn wsX1_save wsX1_isSlot := goodIn_r _ [8] (by decide +kernel) (by decide +kernel)
set_option maxRecDepth 20000 in
theorem gX1_save_X1_isSlot : GoodIn wsX1_save (va_wsS RX1 188 yX1_isSlot wsX1_isSlot) := goodIn_app (goodIn_of _ (by decide +kernel)) ggX1_save_X1_isSlot
set_option maxRecDepth 20000 in
theorem ggX1_save_X1_copy : GoodIn wsX1_save wsX1_copy := goodIn_r _ [11, 12, 4, 13, 14, 15, 16, 17, 18, 19, 20, 21, 22, 23, 24, 25, 26, 27, 28, 29, 30, 31, 32, 33, 34, 35, 36, 7, 37, 46, 47, 48, 49, 50, 51, 52, 53, 54, 55, 56, 57, 58, 59, 60, 61] (by decide +kernel) (by decide +kernel)
set_option maxRecDepth 20000 in
theorem gX1_save_X1_copy : GoodIn wsX1_save (va_wsS RX1 172 yX1_copy wsX1_copy) := goodIn_app (goodIn_of _ (by decide +kernel)) ggX1_save_X1_copy
theorem dX1_save_0 : decode cX1_save 0 = .ok (.iload_n 1, 1) := by decide +kernel
theorem dX1_save_1 : decode cX1_save 1 = .ok (.invokestatic 188, 3) := by decide +kernel
theorem dX1_save_4 : decode cX1_save 4 = .ok (.ifCond .ne 6, 3) := by decide +kernel
theorem dX1_save_7 : decode cX1_save 7 = .ok (.bipush (-2), 2) := by decide +kernel
theorem dX1_save_9 : decode cX1_save 9 = .ok (.ireturn, 1) := by decide +kernel
theorem dX1_save_10 : decode cX1_save 10 = .ok (.aload_n 0, 1) := by decide +kernel
theorem dX1_save_11 : decode cX1_save 11 = .ok (.getfield 10, 3) := by decide +kernel
theorem dX1_save_14 : decode cX1_save 14 = .ok (.aload_n 0, 1) := by decide +kernel
theorem dX1_save_15 : decode cX1_save 15 = .ok (.getfield 23, 3) := by decide +kernel
theorem dX1_save_18 : decode cX1_save 18 = .ok (.iload_n 1, 1) := by decide +kernel
theorem dX1_save_19 : decode cX1_save 19 = .ok (.aaload, 1) := by decide +kernel
theorem dX1_save_20 : decode cX1_save 20 = .ok (.invokestatic 172, 3) := by decide +kernel
theorem dX1_save_23 : decode cX1_save 23 = .ok (.aload_n 0, 1) := by decide +kernel
theorem dX1_save_24 : decode cX1_save 24 = .ok (.getfield 26, 3) := by decide +kernel
theorem dX1_save_27 : decode cX1_save 27 = .ok (.iload_n 1, 1) := by decide +kernel
theorem dX1_save_28 : decode cX1_save 28 = .ok (.iconst 1, 1) := by decide +kernel
theorem dX1_save_29 : decode cX1_save 29 = .ok (.bastore, 1) := by decide +kernel
theorem dX1_save_30 : decode cX1_save 30 = .ok (.aload_n 0, 1) := by decide +kernel
theorem dX1_save_31 : decode cX1_save 31 = .ok (.getfield 10, 3) := by decide +kernel
theorem dX1_save_34 : decode cX1_save 34 = .ok (.getfield 110, 3) := by decide +kernel
theorem dX1_save_37 : decode cX1_save 37 = .ok (.ireturn, 1) := by decide +kernel
set_option maxRecDepth 20000 in
theorem ggX1_restore_X1_isSlot : GoodIn wsX1_restore wsX1_isSlot := goodIn_r _ [8] (by decide +kernel) (by decide +kernel)
set_option maxRecDepth 20000 in
theorem gX1_restore_X1_isSlot : GoodIn wsX1_restore (va_wsS RX1 188 yX1_isSlot wsX1_isSlot) := goodIn_app (goodIn_of _ (by decide +kernel)) ggX1_restore_X1_isSlot
set_option maxRecDepth 20000 in
theorem ggX1_restore_X1_record : GoodIn wsX1_restore wsX1_record := goodIn_r _ [12, 13, 14, 3, 15, 16, 7, 17, 18, 4, 19, 20, 21, 22, 23, 24, 25, 26, 27, 28, 29, 30, 31, 32, 33, 34, 35, 36, 37, 38, 39, 40, 41, 42, 43, 44, 45, 46, 47, 48, 49, 50, 51, 52, 53, 54, 55, 56, 57, 58, 59, 60, 61, 62, 63, 64, 65, 66, 67] (by decide +kernel) (by decide +kernel)
set_option maxRecDepth 20000 in
theorem gX1_restore_X1_record : GoodIn wsX1_restore (wsV RX1 41 RX1 yX1_record wsX1_record) := goodIn_app (goodIn_of _ (by decide +kernel)) ggX1_restore_X1_record
set_option maxRecDepth 20000 in
theorem ggX1_restore_X1_copy : GoodIn wsX1_restore wsX1_copy := goodIn_r _ [17, 18, 4, 19, 20, 21, 22, 23, 24, 25, 26, 27, 28, 29, 30, 31, 32, 33, 34, 35, 36, 37, 38, 39, 40, 41, 42, 7, 43, 52, 53, 54, 55, 56, 57, 58, 59, 60, 61, 62, 63, 64, 65, 66, 67] (by decide +kernel) (by decide +kernel)
set_option maxRecDepth 20000 in
theorem gX1_restore_X1_copy : GoodIn wsX1_restore (va_wsS RX1 172 yX1_copy wsX1_copy) := goodIn_app (goodIn_of _ (by decide +kernel)) ggX1_restore_X1_copy
theorem dX1_restore_0 : decode cX1_restore 0 = .ok (.iload_n 1, 1) := by decide +kernel
theorem dX1_restore_1 : decode cX1_restore 1 = .ok (.invokestatic 188, 3) := by decide +kernel
theorem dX1_restore_4 : decode cX1_restore 4 = .ok (.ifCond .ne 6, 3) := by decide +kernel
theorem dX1_restore_7 : decode cX1_restore 7 = .ok (.bipush (-2), 2) := by decide +kernel
theorem dX1_restore_9 : decode cX1_restore 9 = .ok (.ireturn, 1) := by decide +kernel
theorem dX1_restore_10 : decode cX1_restore 10 = .ok (.aload_n 0, 1) := by decide +kernel
theorem dX1_restore_11 : decode cX1_restore 11 = .ok (.getfield 26, 3) := by decide +kernel
theorem dX1_restore_14 : decode cX1_restore 14 = .ok (.iload_n 1, 1) := by decide +kernel
theorem dX1_restore_15 : decode cX1_restore 15 = .ok (.baload, 1) := by decide +kernel
theorem dX1_restore_16 : decode cX1_restore 16 = .ok (.ifCond .ne 6, 3) := by decide +kernel
theorem dX1_restore_19 : decode cX1_restore 19 = .ok (.bipush (-5), 2) := by decide +kernel
theorem dX1_restore_21 : decode cX1_restore 21 = .ok (.ireturn, 1) := by decide +kernel
theorem dX1_restore_22 : decode cX1_restore 22 = .ok (.aload_n 0, 1) := by decide +kernel
theorem dX1_restore_23 : decode cX1_restore 23 = .ok (.invokevirtual 41, 3) := by decide +kernel
theorem dX1_restore_26 : decode cX1_restore 26 = .ok (.aload_n 0, 1) := by decide +kernel
theorem dX1_restore_27 : decode cX1_restore 27 = .ok (.getfield 23, 3) := by decide +kernel
theorem dX1_restore_30 : decode cX1_restore 30 = .ok (.iload_n 1, 1) := by decide +kernel
theorem dX1_restore_31 : decode cX1_restore 31 = .ok (.aaload, 1) := by decide +kernel
theorem dX1_restore_32 : decode cX1_restore 32 = .ok (.aload_n 0, 1) := by decide +kernel
theorem dX1_restore_33 : decode cX1_restore 33 = .ok (.getfield 10, 3) := by decide +kernel
theorem dX1_restore_36 : decode cX1_restore 36 = .ok (.invokestatic 172, 3) := by decide +kernel
theorem dX1_restore_39 : decode cX1_restore 39 = .ok (.aload_n 0, 1) := by decide +kernel
theorem dX1_restore_40 : decode cX1_restore 40 = .ok (.getfield 10, 3) := by decide +kernel
theorem dX1_restore_43 : decode cX1_restore 43 = .ok (.getfield 110, 3) := by decide +kernel
theorem dX1_restore_46 : decode cX1_restore 46 = .ok (.ireturn, 1) := by decide +kernel
set_option maxRecDepth 20000 in
theorem ggX1_record_X1_copy : GoodIn wsX1_record wsX1_copy := goodIn_r _ [7, 8, 9, 10, 11, 12, 13, 14, 15, 16, 17, 18, 19, 20, 21, 22, 23, 24, 25, 26, 27, 28, 29, 30, 31, 32, 33, 6, 34, 43, 44, 45, 46, 47, 48, 49, 50, 51, 52, 53, 54, 55, 56, 57, 58] (by decide +kernel) (by decide +kernel)
set_option maxRecDepth 20000 in
theorem gX1_record_X1_copy : GoodIn wsX1_record (va_wsS RX1 172 yX1_copy wsX1_copy) := goodIn_app (goodIn_of _ (by decide +kernel)) ggX1_record_X1_copy
theorem dX1_record_0 : decode cX1_record 0 = .ok (.aload_n 0, 1) := by decide +kernel
theorem dX1_record_1 : decode cX1_record 1 = .ok (.getfield 163, 3) := by decide +kernel
theorem dX1_record_4 : decode cX1_record 4 = .ok (.bipush 6, 2) := by decide +kernel
theorem dX1_record_6 : decode cX1_record 6 = .ok (.if_icmp .lt 50, 3) := by decide +kernel
theorem dX1_record_9 : decode cX1_record 9 = .ok (.aload_n 0, 1) := by decide +kernel
theorem dX1_record_10 : decode cX1_record 10 = .ok (.getfield 19, 3) := by decide +kernel
theorem dX1_record_13 : decode cX1_record 13 = .ok (.iconst 0, 1) := by decide +kernel
theorem dX1_record_14 : decode cX1_record 14 = .ok (.aaload, 1) := by decide +kernel
theorem dX1_record_15 : decode cX1_record 15 = .ok (.astore_n 1, 1) := by decide +kernel
theorem dX1_record_16 : decode cX1_record 16 = .ok (.iconst 1, 1) := by decide +kernel
theorem dX1_record_17 : decode cX1_record 17 = .ok (.istore_n 2, 1) := by decide +kernel
theorem dX1_record_18 : decode cX1_record 18 = .ok (.iload_n 2, 1) := by decide +kernel
theorem dX1_record_19 : decode cX1_record 19 = .ok (.bipush 6, 2) := by decide +kernel
theorem dX1_record_21 : decode cX1_record 21 = .ok (.if_icmp .ge 23, 3) := by decide +kernel
theorem dX1_record_24 : decode cX1_record 24 = .ok (.aload_n 0, 1) := by decide +kernel
theorem dX1_record_25 : decode cX1_record 25 = .ok (.getfield 19, 3) := by decide +kernel
theorem dX1_record_28 : decode cX1_record 28 = .ok (.iload_n 2, 1) := by decide +kernel
theorem dX1_record_29 : decode cX1_record 29 = .ok (.iconst 1, 1) := by decide +kernel
theorem dX1_record_30 : decode cX1_record 30 = .ok (.isub, 1) := by decide +kernel
theorem dX1_record_31 : decode cX1_record 31 = .ok (.aload_n 0, 1) := by decide +kernel
theorem dX1_record_32 : decode cX1_record 32 = .ok (.getfield 19, 3) := by decide +kernel
theorem dX1_record_35 : decode cX1_record 35 = .ok (.iload_n 2, 1) := by decide +kernel
theorem dX1_record_36 : decode cX1_record 36 = .ok (.aaload, 1) := by decide +kernel
theorem dX1_record_37 : decode cX1_record 37 = .ok (.aastore, 1) := by decide +kernel
theorem dX1_record_38 : decode cX1_record 38 = .ok (.iinc 2 1, 3) := by decide +kernel
theorem dX1_record_41 : decode cX1_record 41 = .ok (.goto (-23), 3) := by decide +kernel
theorem dX1_record_44 : decode cX1_record 44 = .ok (.aload_n 0, 1) := by decide +kernel
theorem dX1_record_45 : decode cX1_record 45 = .ok (.getfield 19, 3) := by decide +kernel
theorem dX1_record_48 : decode cX1_record 48 = .ok (.iconst 5, 1) := by decide +kernel
theorem dX1_record_49 : decode cX1_record 49 = .ok (.aload_n 1, 1) := by decide +kernel
theorem dX1_record_50 : decode cX1_record 50 = .ok (.aastore, 1) := by decide +kernel
theorem dX1_record_51 : decode cX1_record 51 = .ok (.aload_n 0, 1) := by decide +kernel
theorem dX1_record_52 : decode cX1_record 52 = .ok (.iconst 5, 1) := by decide +kernel
theorem dX1_record_53 : decode cX1_record 53 = .ok (.putfield 163, 3) := by decide +kernel
theorem dX1_record_56 : decode cX1_record 56 = .ok (.aload_n 0, 1) := by decide +kernel
theorem dX1_record_57 : decode cX1_record 57 = .ok (.getfield 163, 3) := by decide +kernel
theorem dX1_record_60 : decode cX1_record 60 = .ok (.ifCond .lt 29, 3) := by decide +kernel
theorem dX1_record_63 : decode cX1_record 63 = .ok (.aload_n 0, 1) := by decide +kernel
theorem dX1_record_64 : decode cX1_record 64 = .ok (.getfield 10, 3) := by decide +kernel
theorem dX1_record_67 : decode cX1_record 67 = .ok (.aload_n 0, 1) := by decide +kernel
theorem dX1_record_68 : decode cX1_record 68 = .ok (.getfield 19, 3) := by decide +kernel
theorem dX1_record_71 : decode cX1_record 71 = .ok (.aload_n 0, 1) := by decide +kernel
theorem dX1_record_72 : decode cX1_record 72 = .ok (.getfield 163, 3) := by decide +kernel
theorem dX1_record_75 : decode cX1_record 75 = .ok (.aaload, 1) := by decide +kernel
theorem dX1_record_76 : decode cX1_record 76 = .ok (.invokestatic 172, 3) := by decide +kernel
theorem dX1_record_79 : decode cX1_record 79 = .ok (.aload_n 0, 1) := by decide +kernel
theorem dX1_record_80 : decode cX1_record 80 = .ok (.dup, 1) := by decide +kernel
theorem dX1_record_81 : decode cX1_record 81 = .ok (.getfield 163, 3) := by decide +kernel
theorem dX1_record_84 : decode cX1_record 84 = .ok (.iconst 1, 1) := by decide +kernel
theorem dX1_record_85 : decode cX1_record 85 = .ok (.iadd, 1) := by decide +kernel
theorem dX1_record_86 : decode cX1_record 86 = .ok (.putfield 163, 3) := by decide +kernel
theorem dX1_record_89 : decode cX1_record 89 = .ok (.return_, 1) := by decide +kernel
set_option maxRecDepth 20000 in
theorem ggX1_copy_X1_copyRow : GoodIn wsX1_copy wsX1_copyRow := goodIn_r _ [28, 5, 6, 7, 8, 9, 10, 11, 12] (by decide +kernel) (by decide +kernel)
set_option maxRecDepth 20000 in
theorem gX1_copy_X1_copyRow : GoodIn wsX1_copy (va_wsS RX1 191 yX1_copyRow wsX1_copyRow) := goodIn_app (goodIn_of _ (by decide +kernel)) ggX1_copy_X1_copyRow
theorem dX1_copy_0 : decode cX1_copy 0 = .ok (.aload_n 0, 1) := by decide +kernel
theorem dX1_copy_1 : decode cX1_copy 1 = .ok (.ifnull 7, 3) := by decide +kernel
theorem dX1_copy_4 : decode cX1_copy 4 = .ok (.aload_n 1, 1) := by decide +kernel
theorem dX1_copy_5 : decode cX1_copy 5 = .ok (.ifnonnull 4, 3) := by decide +kernel
theorem dX1_copy_8 : decode cX1_copy 8 = .ok (.return_, 1) := by decide +kernel
theorem dX1_copy_9 : decode cX1_copy 9 = .ok (.aload_n 0, 1) := by decide +kernel
theorem dX1_copy_10 : decode cX1_copy 10 = .ok (.getfield 44, 3) := by decide +kernel
theorem dX1_copy_13 : decode cX1_copy 13 = .ok (.aload_n 1, 1) := by decide +kernel
theorem dX1_copy_14 : decode cX1_copy 14 = .ok (.getfield 44, 3) := by decide +kernel
theorem dX1_copy_17 : decode cX1_copy 17 = .ok (.invokestatic 191, 3) := by decide +kernel
theorem dX1_copy_20 : decode cX1_copy 20 = .ok (.aload_n 1, 1) := by decide +kernel
theorem dX1_copy_21 : decode cX1_copy 21 = .ok (.aload_n 0, 1) := by decide +kernel
theorem dX1_copy_22 : decode cX1_copy 22 = .ok (.getfield 110, 3) := by decide +kernel
theorem dX1_copy_25 : decode cX1_copy 25 = .ok (.putfield 110, 3) := by decide +kernel
theorem dX1_copy_28 : decode cX1_copy 28 = .ok (.aload_n 1, 1) := by decide +kernel
theorem dX1_copy_29 : decode cX1_copy 29 = .ok (.aload_n 0, 1) := by decide +kernel
theorem dX1_copy_30 : decode cX1_copy 30 = .ok (.getfield 51, 3) := by decide +kernel
theorem dX1_copy_33 : decode cX1_copy 33 = .ok (.putfield 51, 3) := by decide +kernel
theorem dX1_copy_36 : decode cX1_copy 36 = .ok (.aload_n 0, 1) := by decide +kernel
theorem dX1_copy_37 : decode cX1_copy 37 = .ok (.getfield 195, 3) := by decide +kernel
theorem dX1_copy_40 : decode cX1_copy 40 = .ok (.iconst 0, 1) := by decide +kernel
theorem dX1_copy_41 : decode cX1_copy 41 = .ok (.aload_n 1, 1) := by decide +kernel
theorem dX1_copy_42 : decode cX1_copy 42 = .ok (.getfield 195, 3) := by decide +kernel
theorem dX1_copy_45 : decode cX1_copy 45 = .ok (.iconst 0, 1) := by decide +kernel
theorem dX1_copy_46 : decode cX1_copy 46 = .ok (.aload_n 0, 1) := by decide +kernel
theorem dX1_copy_47 : decode cX1_copy 47 = .ok (.getfield 195, 3) := by decide +kernel
theorem dX1_copy_50 : decode cX1_copy 50 = .ok (.arraylength, 1) := by decide +kernel
theorem dX1_copy_51 : decode cX1_copy 51 = .ok (.aload_n 1, 1) := by decide +kernel
theorem dX1_copy_52 : decode cX1_copy 52 = .ok (.getfield 195, 3) := by decide +kernel
theorem dX1_copy_55 : decode cX1_copy 55 = .ok (.arraylength, 1) := by decide +kernel
theorem dX1_copy_56 : decode cX1_copy 56 = .ok (.invokestatic 198, 3) := by decide +kernel
theorem dX1_copy_59 : decode cX1_copy 59 = .ok (.invokestatic 203, 3) := by decide +kernel
theorem dX1_copy_62 : decode cX1_copy 62 = .ok (.aload_n 0, 1) := by decide +kernel
theorem dX1_copy_63 : decode cX1_copy 63 = .ok (.getfield 128, 3) := by decide +kernel
theorem dX1_copy_66 : decode cX1_copy 66 = .ok (.aload_n 1, 1) := by decide +kernel
theorem dX1_copy_67 : decode cX1_copy 67 = .ok (.getfield 128, 3) := by decide +kernel
theorem dX1_copy_70 : decode cX1_copy 70 = .ok (.invokestatic 191, 3) := by decide +kernel
theorem dX1_copy_73 : decode cX1_copy 73 = .ok (.aload_n 0, 1) := by decide +kernel
theorem dX1_copy_74 : decode cX1_copy 74 = .ok (.getfield 125, 3) := by decide +kernel
theorem dX1_copy_77 : decode cX1_copy 77 = .ok (.aload_n 1, 1) := by decide +kernel
theorem dX1_copy_78 : decode cX1_copy 78 = .ok (.getfield 125, 3) := by decide +kernel
theorem dX1_copy_81 : decode cX1_copy 81 = .ok (.invokestatic 191, 3) := by decide +kernel
theorem dX1_copy_84 : decode cX1_copy 84 = .ok (.aload_n 0, 1) := by decide +kernel
theorem dX1_copy_85 : decode cX1_copy 85 = .ok (.getfield 73, 3) := by decide +kernel
theorem dX1_copy_88 : decode cX1_copy 88 = .ok (.aload_n 1, 1) := by decide +kernel
theorem dX1_copy_89 : decode cX1_copy 89 = .ok (.getfield 73, 3) := by decide +kernel
theorem dX1_copy_92 : decode cX1_copy 92 = .ok (.invokestatic 191, 3) := by decide +kernel
theorem dX1_copy_95 : decode cX1_copy 95 = .ok (.iconst 0, 1) := by decide +kernel
theorem dX1_copy_96 : decode cX1_copy 96 = .ok (.istore_n 2, 1) := by decide +kernel
theorem dX1_copy_97 : decode cX1_copy 97 = .ok (.iload_n 2, 1) := by decide +kernel
theorem dX1_copy_98 : decode cX1_copy 98 = .ok (.aload_n 0, 1) := by decide +kernel
theorem dX1_copy_99 : decode cX1_copy 99 = .ok (.getfield 76, 3) := by decide +kernel
theorem dX1_copy_102 : decode cX1_copy 102 = .ok (.arraylength, 1) := by decide +kernel
theorem dX1_copy_103 : decode cX1_copy 103 = .ok (.if_icmp .ge 30, 3) := by decide +kernel
theorem dX1_copy_106 : decode cX1_copy 106 = .ok (.iload_n 2, 1) := by decide +kernel
theorem dX1_copy_107 : decode cX1_copy 107 = .ok (.aload_n 1, 1) := by decide +kernel
theorem dX1_copy_108 : decode cX1_copy 108 = .ok (.getfield 76, 3) := by decide +kernel
theorem dX1_copy_111 : decode cX1_copy 111 = .ok (.arraylength, 1) := by decide +kernel
theorem dX1_copy_112 : decode cX1_copy 112 = .ok (.if_icmp .ge 21, 3) := by decide +kernel
theorem dX1_copy_115 : decode cX1_copy 115 = .ok (.aload_n 1, 1) := by decide +kernel
theorem dX1_copy_116 : decode cX1_copy 116 = .ok (.getfield 76, 3) := by decide +kernel
theorem dX1_copy_119 : decode cX1_copy 119 = .ok (.iload_n 2, 1) := by decide +kernel
theorem dX1_copy_120 : decode cX1_copy 120 = .ok (.aload_n 0, 1) := by decide +kernel
theorem dX1_copy_121 : decode cX1_copy 121 = .ok (.getfield 76, 3) := by decide +kernel
theorem dX1_copy_124 : decode cX1_copy 124 = .ok (.iload_n 2, 1) := by decide +kernel
theorem dX1_copy_125 : decode cX1_copy 125 = .ok (.baload, 1) := by decide +kernel
theorem dX1_copy_126 : decode cX1_copy 126 = .ok (.bastore, 1) := by decide +kernel
theorem dX1_copy_127 : decode cX1_copy 127 = .ok (.iinc 2 1, 3) := by decide +kernel
theorem dX1_copy_130 : decode cX1_copy 130 = .ok (.goto (-33), 3) := by decide +kernel
theorem dX1_copy_133 : decode cX1_copy 133 = .ok (.aload_n 0, 1) := by decide +kernel
theorem dX1_copy_134 : decode cX1_copy 134 = .ok (.getfield 131, 3) := by decide +kernel
theorem dX1_copy_137 : decode cX1_copy 137 = .ok (.aload_n 1, 1) := by decide +kernel
theorem dX1_copy_138 : decode cX1_copy 138 = .ok (.getfield 131, 3) := by decide +kernel
theorem dX1_copy_141 : decode cX1_copy 141 = .ok (.invokestatic 191, 3) := by decide +kernel
theorem dX1_copy_144 : decode cX1_copy 144 = .ok (.aload_n 0, 1) := by decide +kernel
theorem dX1_copy_145 : decode cX1_copy 145 = .ok (.getfield 97, 3) := by decide +kernel
theorem dX1_copy_148 : decode cX1_copy 148 = .ok (.aload_n 1, 1) := by decide +kernel
theorem dX1_copy_149 : decode cX1_copy 149 = .ok (.getfield 97, 3) := by decide +kernel
theorem dX1_copy_152 : decode cX1_copy 152 = .ok (.invokestatic 191, 3) := by decide +kernel
theorem dX1_copy_155 : decode cX1_copy 155 = .ok (.aload_n 0, 1) := by decide +kernel
theorem dX1_copy_156 : decode cX1_copy 156 = .ok (.getfield 94, 3) := by decide +kernel
theorem dX1_copy_159 : decode cX1_copy 159 = .ok (.aload_n 1, 1) := by decide +kernel
theorem dX1_copy_160 : decode cX1_copy 160 = .ok (.getfield 94, 3) := by decide +kernel
theorem dX1_copy_163 : decode cX1_copy 163 = .ok (.invokestatic 191, 3) := by decide +kernel
theorem dX1_copy_166 : decode cX1_copy 166 = .ok (.aload_n 0, 1) := by decide +kernel
theorem dX1_copy_167 : decode cX1_copy 167 = .ok (.getfield 138, 3) := by decide +kernel
theorem dX1_copy_170 : decode cX1_copy 170 = .ok (.aload_n 1, 1) := by decide +kernel
theorem dX1_copy_171 : decode cX1_copy 171 = .ok (.getfield 138, 3) := by decide +kernel
theorem dX1_copy_174 : decode cX1_copy 174 = .ok (.invokestatic 191, 3) := by decide +kernel
theorem dX1_copy_177 : decode cX1_copy 177 = .ok (.aload_n 0, 1) := by decide +kernel
theorem dX1_copy_178 : decode cX1_copy 178 = .ok (.getfield 141, 3) := by decide +kernel
theorem dX1_copy_181 : decode cX1_copy 181 = .ok (.aload_n 1, 1) := by decide +kernel
theorem dX1_copy_182 : decode cX1_copy 182 = .ok (.getfield 141, 3) := by decide +kernel
theorem dX1_copy_185 : decode cX1_copy 185 = .ok (.invokestatic 191, 3) := by decide +kernel
theorem dX1_copy_188 : decode cX1_copy 188 = .ok (.aload_n 0, 1) := by decide +kernel
theorem dX1_copy_189 : decode cX1_copy 189 = .ok (.getfield 144, 3) := by decide +kernel
theorem dX1_copy_192 : decode cX1_copy 192 = .ok (.aload_n 1, 1) := by decide +kernel
theorem dX1_copy_193 : decode cX1_copy 193 = .ok (.getfield 144, 3) := by decide +kernel
theorem dX1_copy_196 : decode cX1_copy 196 = .ok (.invokestatic 191, 3) := by decide +kernel
theorem dX1_copy_199 : decode cX1_copy 199 = .ok (.aload_n 1, 1) := by decide +kernel
theorem dX1_copy_200 : decode cX1_copy 200 = .ok (.aload_n 0, 1) := by decide +kernel
theorem dX1_copy_201 : decode cX1_copy 201 = .ok (.getfield 209, 3) := by decide +kernel
theorem dX1_copy_204 : decode cX1_copy 204 = .ok (.putfield 209, 3) := by decide +kernel
theorem dX1_copy_207 : decode cX1_copy 207 = .ok (.aload_n 0, 1) := by decide +kernel
theorem dX1_copy_208 : decode cX1_copy 208 = .ok (.getfield 147, 3) := by decide +kernel
theorem dX1_copy_211 : decode cX1_copy 211 = .ok (.aload_n 1, 1) := by decide +kernel
theorem dX1_copy_212 : decode cX1_copy 212 = .ok (.getfield 147, 3) := by decide +kernel
theorem dX1_copy_215 : decode cX1_copy 215 = .ok (.invokestatic 191, 3) := by decide +kernel
theorem dX1_copy_218 : decode cX1_copy 218 = .ok (.return_, 1) := by decide +kernel
theorem dX1_copyRow_0 : decode cX1_copyRow 0 = .ok (.aload_n 0, 1) := by decide +kernel
theorem dX1_copyRow_1 : decode cX1_copyRow 1 = .ok (.iconst 0, 1) := by decide +kernel
theorem dX1_copyRow_2 : decode cX1_copyRow 2 = .ok (.aload_n 1, 1) := by decide +kernel
theorem dX1_copyRow_3 : decode cX1_copyRow 3 = .ok (.iconst 0, 1) := by decide +kernel
theorem dX1_copyRow_4 : decode cX1_copyRow 4 = .ok (.aload_n 0, 1) := by decide +kernel
theorem dX1_copyRow_5 : decode cX1_copyRow 5 = .ok (.arraylength, 1) := by decide +kernel
theorem dX1_copyRow_6 : decode cX1_copyRow 6 = .ok (.aload_n 1, 1) := by decide +kernel
theorem dX1_copyRow_7 : decode cX1_copyRow 7 = .ok (.arraylength, 1) := by decide +kernel
theorem dX1_copyRow_8 : decode cX1_copyRow 8 = .ok (.invokestatic 198, 3) := by decide +kernel
theorem dX1_copyRow_11 : decode cX1_copyRow 11 = .ok (.invokestatic 203, 3) := by decide +kernel
theorem dX1_copyRow_14 : decode cX1_copyRow 14 = .ok (.return_, 1) := by decide +kernel
set_option maxRecDepth 20000 in
theorem ggX1_padFault_X1_isLetter : GoodIn wsX1_padFault wsX1_isLetter := goodIn_r _ [6] (by decide +kernel) (by decide +kernel)
set_option maxRecDepth 20000 in
theorem gX1_padFault_X1_isLetter : GoodIn wsX1_padFault (va_wsS RX1 213 yX1_isLetter wsX1_isLetter) := goodIn_app (goodIn_of _ (by decide +kernel)) ggX1_padFault_X1_isLetter
set_option maxRecDepth 20000 in
theorem ggX1_padFault_X1_isDigit : GoodIn wsX1_padFault wsX1_isDigit := goodIn_r _ [9] (by decide +kernel) (by decide +kernel)
set_option maxRecDepth 20000 in
theorem gX1_padFault_X1_isDigit : GoodIn wsX1_padFault (va_wsS RX1 61 yX1_isDigit wsX1_isDigit) := goodIn_app (goodIn_of _ (by decide +kernel)) ggX1_padFault_X1_isDigit
theorem dX1_padFault_0 : decode cX1_padFault 0 = .ok (.iconst 0, 1) := by decide +kernel
theorem dX1_padFault_1 : decode cX1_padFault 1 = .ok (.istore_n 1, 1) := by decide +kernel
theorem dX1_padFault_2 : decode cX1_padFault 2 = .ok (.iconst 0, 1) := by decide +kernel
theorem dX1_padFault_3 : decode cX1_padFault 3 = .ok (.istore_n 2, 1) := by decide +kernel
theorem dX1_padFault_4 : decode cX1_padFault 4 = .ok (.iload_n 2, 1) := by decide +kernel
theorem dX1_padFault_5 : decode cX1_padFault 5 = .ok (.aload_n 0, 1) := by decide +kernel
theorem dX1_padFault_6 : decode cX1_padFault 6 = .ok (.getfield 58, 3) := by decide +kernel
theorem dX1_padFault_9 : decode cX1_padFault 9 = .ok (.if_icmp .ge 57, 3) := by decide +kernel
theorem dX1_padFault_12 : decode cX1_padFault 12 = .ok (.aload_n 0, 1) := by decide +kernel
theorem dX1_padFault_13 : decode cX1_padFault 13 = .ok (.getfield 30, 3) := by decide +kernel
theorem dX1_padFault_16 : decode cX1_padFault 16 = .ok (.iload_n 2, 1) := by decide +kernel
theorem dX1_padFault_17 : decode cX1_padFault 17 = .ok (.caload, 1) := by decide +kernel
theorem dX1_padFault_18 : decode cX1_padFault 18 = .ok (.invokestatic 213, 3) := by decide +kernel
theorem dX1_padFault_21 : decode cX1_padFault 21 = .ok (.ifCond .eq 15, 3) := by decide +kernel
theorem dX1_padFault_24 : decode cX1_padFault 24 = .ok (.iload_n 1, 1) := by decide +kernel
theorem dX1_padFault_25 : decode cX1_padFault 25 = .ok (.bipush 9, 2) := by decide +kernel
theorem dX1_padFault_27 : decode cX1_padFault 27 = .ok (.if_icmp .ge 9, 3) := by decide +kernel
theorem dX1_padFault_30 : decode cX1_padFault 30 = .ok (.iinc 1 1, 3) := by decide +kernel
theorem dX1_padFault_33 : decode cX1_padFault 33 = .ok (.goto 27, 3) := by decide +kernel
theorem dX1_padFault_36 : decode cX1_padFault 36 = .ok (.aload_n 0, 1) := by decide +kernel
theorem dX1_padFault_37 : decode cX1_padFault 37 = .ok (.getfield 30, 3) := by decide +kernel
theorem dX1_padFault_40 : decode cX1_padFault 40 = .ok (.iload_n 2, 1) := by decide +kernel
theorem dX1_padFault_41 : decode cX1_padFault 41 = .ok (.caload, 1) := by decide +kernel
theorem dX1_padFault_42 : decode cX1_padFault 42 = .ok (.invokestatic 61, 3) := by decide +kernel
theorem dX1_padFault_45 : decode cX1_padFault 45 = .ok (.ifCond .eq 13, 3) := by decide +kernel
theorem dX1_padFault_48 : decode cX1_padFault 48 = .ok (.iload_n 1, 1) := by decide +kernel
theorem dX1_padFault_49 : decode cX1_padFault 49 = .ok (.iconst 2, 1) := by decide +kernel
theorem dX1_padFault_50 : decode cX1_padFault 50 = .ok (.if_icmp .lt 8, 3) := by decide +kernel
theorem dX1_padFault_53 : decode cX1_padFault 53 = .ok (.iconst 0, 1) := by decide +kernel
theorem dX1_padFault_54 : decode cX1_padFault 54 = .ok (.istore_n 1, 1) := by decide +kernel
theorem dX1_padFault_55 : decode cX1_padFault 55 = .ok (.goto 5, 3) := by decide +kernel
theorem dX1_padFault_58 : decode cX1_padFault 58 = .ok (.iload_n 2, 1) := by decide +kernel
theorem dX1_padFault_59 : decode cX1_padFault 59 = .ok (.ireturn, 1) := by decide +kernel
theorem dX1_padFault_60 : decode cX1_padFault 60 = .ok (.iinc 2 1, 3) := by decide +kernel
theorem dX1_padFault_63 : decode cX1_padFault 63 = .ok (.goto (-59), 3) := by decide +kernel
theorem dX1_padFault_66 : decode cX1_padFault 66 = .ok (.aload_n 0, 1) := by decide +kernel
theorem dX1_padFault_67 : decode cX1_padFault 67 = .ok (.getfield 58, 3) := by decide +kernel
theorem dX1_padFault_70 : decode cX1_padFault 70 = .ok (.ifCond .eq 7, 3) := by decide +kernel
theorem dX1_padFault_73 : decode cX1_padFault 73 = .ok (.iload_n 1, 1) := by decide +kernel
theorem dX1_padFault_74 : decode cX1_padFault 74 = .ok (.ifCond .le 10, 3) := by decide +kernel
theorem dX1_padFault_77 : decode cX1_padFault 77 = .ok (.aload_n 0, 1) := by decide +kernel
theorem dX1_padFault_78 : decode cX1_padFault 78 = .ok (.getfield 58, 3) := by decide +kernel
theorem dX1_padFault_81 : decode cX1_padFault 81 = .ok (.goto 5, 3) := by decide +kernel
theorem dX1_padFault_84 : decode cX1_padFault 84 = .ok (.bipush (-6), 2) := by decide +kernel
theorem dX1_padFault_86 : decode cX1_padFault 86 = .ok (.ireturn, 1) := by decide +kernel
set_option maxRecDepth 20000 in
theorem ggX1_padNames_X1_isDigit : GoodIn wsX1_padNames wsX1_isDigit := goodIn_r _ [6] (by decide +kernel) (by decide +kernel)
set_option maxRecDepth 20000 in
theorem gX1_padNames_X1_isDigit : GoodIn wsX1_padNames (va_wsS RX1 61 yX1_isDigit wsX1_isDigit) := goodIn_app (goodIn_of _ (by decide +kernel)) ggX1_padNames_X1_isDigit
theorem dX1_padNames_0 : decode cX1_padNames 0 = .ok (.iconst 0, 1) := by decide +kernel
theorem dX1_padNames_1 : decode cX1_padNames 1 = .ok (.istore_n 1, 1) := by decide +kernel
theorem dX1_padNames_2 : decode cX1_padNames 2 = .ok (.iconst 0, 1) := by decide +kernel
theorem dX1_padNames_3 : decode cX1_padNames 3 = .ok (.istore_n 2, 1) := by decide +kernel
theorem dX1_padNames_4 : decode cX1_padNames 4 = .ok (.iload_n 2, 1) := by decide +kernel
theorem dX1_padNames_5 : decode cX1_padNames 5 = .ok (.aload_n 0, 1) := by decide +kernel
theorem dX1_padNames_6 : decode cX1_padNames 6 = .ok (.getfield 58, 3) := by decide +kernel
theorem dX1_padNames_9 : decode cX1_padNames 9 = .ok (.if_icmp .ge 24, 3) := by decide +kernel
theorem dX1_padNames_12 : decode cX1_padNames 12 = .ok (.aload_n 0, 1) := by decide +kernel
theorem dX1_padNames_13 : decode cX1_padNames 13 = .ok (.getfield 30, 3) := by decide +kernel
theorem dX1_padNames_16 : decode cX1_padNames 16 = .ok (.iload_n 2, 1) := by decide +kernel
theorem dX1_padNames_17 : decode cX1_padNames 17 = .ok (.caload, 1) := by decide +kernel
theorem dX1_padNames_18 : decode cX1_padNames 18 = .ok (.invokestatic 61, 3) := by decide +kernel
theorem dX1_padNames_21 : decode cX1_padNames 21 = .ok (.ifCond .eq 6, 3) := by decide +kernel
theorem dX1_padNames_24 : decode cX1_padNames 24 = .ok (.iinc 1 1, 3) := by decide +kernel
theorem dX1_padNames_27 : decode cX1_padNames 27 = .ok (.iinc 2 1, 3) := by decide +kernel
theorem dX1_padNames_30 : decode cX1_padNames 30 = .ok (.goto (-26), 3) := by decide +kernel
theorem dX1_padNames_33 : decode cX1_padNames 33 = .ok (.iload_n 1, 1) := by decide +kernel
theorem dX1_padNames_34 : decode cX1_padNames 34 = .ok (.ireturn, 1) := by decide +kernel
theorem dX1_append_0 : decode cX1_append 0 = .ok (.aload_n 0, 1) := by decide +kernel
theorem dX1_append_1 : decode cX1_append 1 = .ok (.getfield 58, 3) := by decide +kernel
theorem dX1_append_4 : decode cX1_append 4 = .ok (.ifCond .lt 32, 3) := by decide +kernel
theorem dX1_append_7 : decode cX1_append 7 = .ok (.aload_n 0, 1) := by decide +kernel
theorem dX1_append_8 : decode cX1_append 8 = .ok (.getfield 58, 3) := by decide +kernel
theorem dX1_append_11 : decode cX1_append 11 = .ok (.bipush 60, 2) := by decide +kernel
theorem dX1_append_13 : decode cX1_append 13 = .ok (.if_icmp .ge 23, 3) := by decide +kernel
theorem dX1_append_16 : decode cX1_append 16 = .ok (.aload_n 0, 1) := by decide +kernel
theorem dX1_append_17 : decode cX1_append 17 = .ok (.getfield 30, 3) := by decide +kernel
theorem dX1_append_20 : decode cX1_append 20 = .ok (.aload_n 0, 1) := by decide +kernel
theorem dX1_append_21 : decode cX1_append 21 = .ok (.getfield 58, 3) := by decide +kernel
theorem dX1_append_24 : decode cX1_append 24 = .ok (.iload_n 1, 1) := by decide +kernel
theorem dX1_append_25 : decode cX1_append 25 = .ok (.castore, 1) := by decide +kernel
theorem dX1_append_26 : decode cX1_append 26 = .ok (.aload_n 0, 1) := by decide +kernel
theorem dX1_append_27 : decode cX1_append 27 = .ok (.dup, 1) := by decide +kernel
theorem dX1_append_28 : decode cX1_append 28 = .ok (.getfield 58, 3) := by decide +kernel
theorem dX1_append_31 : decode cX1_append 31 = .ok (.iconst 1, 1) := by decide +kernel
theorem dX1_append_32 : decode cX1_append 32 = .ok (.iadd, 1) := by decide +kernel
theorem dX1_append_33 : decode cX1_append 33 = .ok (.putfield 58, 3) := by decide +kernel
theorem dX1_append_36 : decode cX1_append 36 = .ok (.return_, 1) := by decide +kernel
set_option maxRecDepth 20000 in
theorem ggX1_charactersIn_X1_codeAt : GoodIn wsX1_charactersIn wsX1_codeAt := goodIn_r _ [4, 5] (by decide +kernel) (by decide +kernel)
set_option maxRecDepth 20000 in
theorem gX1_charactersIn_X1_codeAt : GoodIn wsX1_charactersIn (va_wsS RX1 180 yX1_codeAt wsX1_codeAt) := goodIn_app (goodIn_of _ (by decide +kernel)) ggX1_charactersIn_X1_codeAt
theorem dX1_charactersIn_0 : decode cX1_charactersIn 0 = .ok (.iconst 0, 1) := by decide +kernel
theorem dX1_charactersIn_1 : decode cX1_charactersIn 1 = .ok (.istore_n 2, 1) := by decide +kernel
theorem dX1_charactersIn_2 : decode cX1_charactersIn 2 = .ok (.iload_n 2, 1) := by decide +kernel
theorem dX1_charactersIn_3 : decode cX1_charactersIn 3 = .ok (.bipush 8, 2) := by decide +kernel
theorem dX1_charactersIn_5 : decode cX1_charactersIn 5 = .ok (.if_icmp .ge 37, 3) := by decide +kernel
theorem dX1_charactersIn_8 : decode cX1_charactersIn 8 = .ok (.lload_n 0, 1) := by decide +kernel
theorem dX1_charactersIn_9 : decode cX1_charactersIn 9 = .ok (.iload_n 2, 1) := by decide +kernel
theorem dX1_charactersIn_10 : decode cX1_charactersIn 10 = .ok (.invokestatic 180, 3) := by decide +kernel
theorem dX1_charactersIn_13 : decode cX1_charactersIn 13 = .ok (.ifCond .eq 29, 3) := by decide +kernel
theorem dX1_charactersIn_16 : decode cX1_charactersIn 16 = .ok (.lload_n 0, 1) := by decide +kernel
theorem dX1_charactersIn_17 : decode cX1_charactersIn 17 = .ok (.iload_n 2, 1) := by decide +kernel
theorem dX1_charactersIn_18 : decode cX1_charactersIn 18 = .ok (.invokestatic 180, 3) := by decide +kernel
theorem dX1_charactersIn_21 : decode cX1_charactersIn 21 = .ok (.istore_n 3, 1) := by decide +kernel
theorem dX1_charactersIn_22 : decode cX1_charactersIn 22 = .ok (.iload_n 3, 1) := by decide +kernel
theorem dX1_charactersIn_23 : decode cX1_charactersIn 23 = .ok (.bipush 33, 2) := by decide +kernel
theorem dX1_charactersIn_25 : decode cX1_charactersIn 25 = .ok (.if_icmp .lt 9, 3) := by decide +kernel
theorem dX1_charactersIn_28 : decode cX1_charactersIn 28 = .ok (.iload_n 3, 1) := by decide +kernel
theorem dX1_charactersIn_29 : decode cX1_charactersIn 29 = .ok (.bipush 126, 2) := by decide +kernel
theorem dX1_charactersIn_31 : decode cX1_charactersIn 31 = .ok (.if_icmp .le 5, 3) := by decide +kernel
theorem dX1_charactersIn_34 : decode cX1_charactersIn 34 = .ok (.iconst 0, 1) := by decide +kernel
theorem dX1_charactersIn_35 : decode cX1_charactersIn 35 = .ok (.ireturn, 1) := by decide +kernel
theorem dX1_charactersIn_36 : decode cX1_charactersIn 36 = .ok (.iinc 2 1, 3) := by decide +kernel
theorem dX1_charactersIn_39 : decode cX1_charactersIn 39 = .ok (.goto (-37), 3) := by decide +kernel
theorem dX1_charactersIn_42 : decode cX1_charactersIn 42 = .ok (.iload_n 2, 1) := by decide +kernel
theorem dX1_charactersIn_43 : decode cX1_charactersIn 43 = .ok (.istore_n 3, 1) := by decide +kernel
theorem dX1_charactersIn_44 : decode cX1_charactersIn 44 = .ok (.iload_n 3, 1) := by decide +kernel
theorem dX1_charactersIn_45 : decode cX1_charactersIn 45 = .ok (.bipush 8, 2) := by decide +kernel
theorem dX1_charactersIn_47 : decode cX1_charactersIn 47 = .ok (.if_icmp .ge 19, 3) := by decide +kernel
theorem dX1_charactersIn_50 : decode cX1_charactersIn 50 = .ok (.lload_n 0, 1) := by decide +kernel
theorem dX1_charactersIn_51 : decode cX1_charactersIn 51 = .ok (.iload_n 3, 1) := by decide +kernel
theorem dX1_charactersIn_52 : decode cX1_charactersIn 52 = .ok (.invokestatic 180, 3) := by decide +kernel
theorem dX1_charactersIn_55 : decode cX1_charactersIn 55 = .ok (.ifCond .eq 5, 3) := by decide +kernel
theorem dX1_charactersIn_58 : decode cX1_charactersIn 58 = .ok (.iconst 0, 1) := by decide +kernel
theorem dX1_charactersIn_59 : decode cX1_charactersIn 59 = .ok (.ireturn, 1) := by decide +kernel
theorem dX1_charactersIn_60 : decode cX1_charactersIn 60 = .ok (.iinc 3 1, 3) := by decide +kernel
theorem dX1_charactersIn_63 : decode cX1_charactersIn 63 = .ok (.goto (-19), 3) := by decide +kernel
theorem dX1_charactersIn_66 : decode cX1_charactersIn 66 = .ok (.iload_n 2, 1) := by decide +kernel
theorem dX1_charactersIn_67 : decode cX1_charactersIn 67 = .ok (.ireturn, 1) := by decide +kernel
theorem dX1_codeAt_0 : decode cX1_codeAt 0 = .ok (.lload_n 0, 1) := by decide +kernel
theorem dX1_codeAt_1 : decode cX1_codeAt 1 = .ok (.bipush 8, 2) := by decide +kernel
theorem dX1_codeAt_3 : decode cX1_codeAt 3 = .ok (.iload_n 2, 1) := by decide +kernel
theorem dX1_codeAt_4 : decode cX1_codeAt 4 = .ok (.imul, 1) := by decide +kernel
theorem dX1_codeAt_5 : decode cX1_codeAt 5 = .ok (.lushr, 1) := by decide +kernel
theorem dX1_codeAt_6 : decode cX1_codeAt 6 = .ok (.ldc2_w 216, 3) := by decide +kernel
theorem dX1_codeAt_9 : decode cX1_codeAt 9 = .ok (.land, 1) := by decide +kernel
theorem dX1_codeAt_10 : decode cX1_codeAt 10 = .ok (.l2i, 1) := by decide +kernel
theorem dX1_codeAt_11 : decode cX1_codeAt 11 = .ok (.ireturn, 1) := by decide +kernel
theorem dX1_isLetter_0 : decode cX1_isLetter 0 = .ok (.iload_n 0, 1) := by decide +kernel
theorem dX1_isLetter_1 : decode cX1_isLetter 1 = .ok (.bipush 97, 2) := by decide +kernel
theorem dX1_isLetter_3 : decode cX1_isLetter 3 = .ok (.if_icmp .lt 13, 3) := by decide +kernel
theorem dX1_isLetter_6 : decode cX1_isLetter 6 = .ok (.iload_n 0, 1) := by decide +kernel
theorem dX1_isLetter_7 : decode cX1_isLetter 7 = .ok (.bipush 122, 2) := by decide +kernel
theorem dX1_isLetter_9 : decode cX1_isLetter 9 = .ok (.if_icmp .gt 7, 3) := by decide +kernel
theorem dX1_isLetter_12 : decode cX1_isLetter 12 = .ok (.iconst 1, 1) := by decide +kernel
theorem dX1_isLetter_13 : decode cX1_isLetter 13 = .ok (.goto 4, 3) := by decide +kernel
theorem dX1_isLetter_16 : decode cX1_isLetter 16 = .ok (.iconst 0, 1) := by decide +kernel
theorem dX1_isLetter_17 : decode cX1_isLetter 17 = .ok (.ireturn, 1) := by decide +kernel
theorem dX1_isDigit_0 : decode cX1_isDigit 0 = .ok (.iload_n 0, 1) := by decide +kernel
theorem dX1_isDigit_1 : decode cX1_isDigit 1 = .ok (.bipush 48, 2) := by decide +kernel
theorem dX1_isDigit_3 : decode cX1_isDigit 3 = .ok (.if_icmp .lt 13, 3) := by decide +kernel
theorem dX1_isDigit_6 : decode cX1_isDigit 6 = .ok (.iload_n 0, 1) := by decide +kernel
theorem dX1_isDigit_7 : decode cX1_isDigit 7 = .ok (.bipush 57, 2) := by decide +kernel
theorem dX1_isDigit_9 : decode cX1_isDigit 9 = .ok (.if_icmp .gt 7, 3) := by decide +kernel
theorem dX1_isDigit_12 : decode cX1_isDigit 12 = .ok (.iconst 1, 1) := by decide +kernel
theorem dX1_isDigit_13 : decode cX1_isDigit 13 = .ok (.goto 4, 3) := by decide +kernel
theorem dX1_isDigit_16 : decode cX1_isDigit 16 = .ok (.iconst 0, 1) := by decide +kernel
theorem dX1_isDigit_17 : decode cX1_isDigit 17 = .ok (.ireturn, 1) := by decide +kernel
theorem dX1_isCorner_0 : decode cX1_isCorner 0 = .ok (.iload_n 0, 1) := by decide +kernel
theorem dX1_isCorner_1 : decode cX1_isCorner 1 = .ok (.ifCond .lt 13, 3) := by decide +kernel
theorem dX1_isCorner_4 : decode cX1_isCorner 4 = .ok (.iload_n 0, 1) := by decide +kernel
theorem dX1_isCorner_5 : decode cX1_isCorner 5 = .ok (.bipush 12, 2) := by decide +kernel
theorem dX1_isCorner_7 : decode cX1_isCorner 7 = .ok (.if_icmp .ge 7, 3) := by decide +kernel
theorem dX1_isCorner_10 : decode cX1_isCorner 10 = .ok (.iconst 1, 1) := by decide +kernel
theorem dX1_isCorner_11 : decode cX1_isCorner 11 = .ok (.goto 4, 3) := by decide +kernel
theorem dX1_isCorner_14 : decode cX1_isCorner 14 = .ok (.iconst 0, 1) := by decide +kernel
theorem dX1_isCorner_15 : decode cX1_isCorner 15 = .ok (.ireturn, 1) := by decide +kernel
theorem dX1_isSlot_0 : decode cX1_isSlot 0 = .ok (.iload_n 0, 1) := by decide +kernel
theorem dX1_isSlot_1 : decode cX1_isSlot 1 = .ok (.ifCond .lt 12, 3) := by decide +kernel
theorem dX1_isSlot_4 : decode cX1_isSlot 4 = .ok (.iload_n 0, 1) := by decide +kernel
theorem dX1_isSlot_5 : decode cX1_isSlot 5 = .ok (.iconst 2, 1) := by decide +kernel
theorem dX1_isSlot_6 : decode cX1_isSlot 6 = .ok (.if_icmp .ge 7, 3) := by decide +kernel
theorem dX1_isSlot_9 : decode cX1_isSlot 9 = .ok (.iconst 1, 1) := by decide +kernel
theorem dX1_isSlot_10 : decode cX1_isSlot 10 = .ok (.goto 4, 3) := by decide +kernel
theorem dX1_isSlot_13 : decode cX1_isSlot 13 = .ok (.iconst 0, 1) := by decide +kernel
theorem dX1_isSlot_14 : decode cX1_isSlot 14 = .ok (.ireturn, 1) := by decide +kernel
theorem dX1_sum_0 : decode cX1_sum 0 = .ok (.iconst 0, 1) := by decide +kernel
theorem dX1_sum_1 : decode cX1_sum 1 = .ok (.istore_n 1, 1) := by decide +kernel
theorem dX1_sum_2 : decode cX1_sum 2 = .ok (.iconst 0, 1) := by decide +kernel
theorem dX1_sum_3 : decode cX1_sum 3 = .ok (.istore_n 2, 1) := by decide +kernel
theorem dX1_sum_4 : decode cX1_sum 4 = .ok (.iload_n 2, 1) := by decide +kernel
theorem dX1_sum_5 : decode cX1_sum 5 = .ok (.aload_n 0, 1) := by decide +kernel
theorem dX1_sum_6 : decode cX1_sum 6 = .ok (.arraylength, 1) := by decide +kernel
theorem dX1_sum_7 : decode cX1_sum 7 = .ok (.if_icmp .ge 15, 3) := by decide +kernel
theorem dX1_sum_10 : decode cX1_sum 10 = .ok (.iload_n 1, 1) := by decide +kernel
theorem dX1_sum_11 : decode cX1_sum 11 = .ok (.aload_n 0, 1) := by decide +kernel
theorem dX1_sum_12 : decode cX1_sum 12 = .ok (.iload_n 2, 1) := by decide +kernel
theorem dX1_sum_13 : decode cX1_sum 13 = .ok (.iaload, 1) := by decide +kernel
theorem dX1_sum_14 : decode cX1_sum 14 = .ok (.iadd, 1) := by decide +kernel
theorem dX1_sum_15 : decode cX1_sum 15 = .ok (.istore_n 1, 1) := by decide +kernel
theorem dX1_sum_16 : decode cX1_sum 16 = .ok (.iinc 2 1, 3) := by decide +kernel
theorem dX1_sum_19 : decode cX1_sum 19 = .ok (.goto (-15), 3) := by decide +kernel
theorem dX1_sum_22 : decode cX1_sum 22 = .ok (.iload_n 1, 1) := by decide +kernel
theorem dX1_sum_23 : decode cX1_sum 23 = .ok (.ireturn, 1) := by decide +kernel
