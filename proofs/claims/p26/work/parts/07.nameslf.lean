theorem dL_isStep_769 : decode cL_isStep 769 = .ok (.aload_n 0, 1) := by decide +kernel
theorem dL_isStep_770 : decode cL_isStep 770 = .ok (.iload 5, 2) := by decide +kernel
theorem dL_isStep_772 : decode cL_isStep 772 = .ok (.iload 6, 2) := by decide +kernel
theorem dL_isStep_774 : decode cL_isStep 774 = .ok (.invokevirtual 74, 3) := by decide +kernel
theorem dL_isStep_777 : decode cL_isStep 777 = .ok (.istore 7, 2) := by decide +kernel
theorem dL_isStep_779 : decode cL_isStep 779 = .ok (.aload_n 0, 1) := by decide +kernel
theorem dL_isStep_780 : decode cL_isStep 780 = .ok (.iload 6, 2) := by decide +kernel
theorem dL_isStep_782 : decode cL_isStep 782 = .ok (.iconst 1, 1) := by decide +kernel
theorem dL_isStep_783 : decode cL_isStep 783 = .ok (.invokevirtual 52, 3) := by decide +kernel
theorem dL_isStep_786 : decode cL_isStep 786 = .ok (.istore 8, 2) := by decide +kernel
theorem dL_isStep_788 : decode cL_isStep 788 = .ok (.aload_n 0, 1) := by decide +kernel
theorem dL_isStep_789 : decode cL_isStep 789 = .ok (.bipush 8, 2) := by decide +kernel
theorem dL_isStep_791 : decode cL_isStep 791 = .ok (.invokevirtual 21, 3) := by decide +kernel
theorem dL_isStep_794 : decode cL_isStep 794 = .ok (.istore 9, 2) := by decide +kernel
theorem dL_isStep_796 : decode cL_isStep 796 = .ok (.aload_n 0, 1) := by decide +kernel
theorem dL_isStep_797 : decode cL_isStep 797 = .ok (.iload 5, 2) := by decide +kernel
theorem dL_isStep_799 : decode cL_isStep 799 = .ok (.iload 6, 2) := by decide +kernel
theorem dL_isStep_801 : decode cL_isStep 801 = .ok (.invokevirtual 77, 3) := by decide +kernel
theorem dL_isStep_804 : decode cL_isStep 804 = .ok (.istore 10, 2) := by decide +kernel
theorem dL_isStep_806 : decode cL_isStep 806 = .ok (.iload 6, 2) := by decide +kernel
theorem dL_isStep_808 : decode cL_isStep 808 = .ok (.ifCond .ne 7, 3) := by decide +kernel
theorem dL_isStep_811 : decode cL_isStep 811 = .ok (.iconst 0, 1) := by decide +kernel
theorem dL_isStep_812 : decode cL_isStep 812 = .ok (.goto 4, 3) := by decide +kernel
theorem dL_isStep_815 : decode cL_isStep 815 = .ok (.iconst 1, 1) := by decide +kernel
theorem dL_isStep_816 : decode cL_isStep 816 = .ok (.iload 6, 2) := by decide +kernel
theorem dL_isStep_818 : decode cL_isStep 818 = .ok (.bipush 11, 2) := by decide +kernel
theorem dL_isStep_820 : decode cL_isStep 820 = .ok (.if_icmp .ne 7, 3) := by decide +kernel
theorem dL_isStep_823 : decode cL_isStep 823 = .ok (.iconst 0, 1) := by decide +kernel
theorem dL_isStep_824 : decode cL_isStep 824 = .ok (.goto 4, 3) := by decide +kernel
theorem dL_isStep_827 : decode cL_isStep 827 = .ok (.iconst 1, 1) := by decide +kernel
theorem dL_isStep_828 : decode cL_isStep 828 = .ok (.iadd, 1) := by decide +kernel
theorem dL_isStep_829 : decode cL_isStep 829 = .ok (.istore 11, 2) := by decide +kernel
theorem dL_isStep_831 : decode cL_isStep 831 = .ok (.iload 10, 2) := by decide +kernel
theorem dL_isStep_833 : decode cL_isStep 833 = .ok (.aload_n 1, 1) := by decide +kernel
theorem dL_isStep_834 : decode cL_isStep 834 = .ok (.iload 5, 2) := by decide +kernel
theorem dL_isStep_836 : decode cL_isStep 836 = .ok (.iload 6, 2) := by decide +kernel
theorem dL_isStep_838 : decode cL_isStep 838 = .ok (.invokevirtual 77, 3) := by decide +kernel
theorem dL_isStep_841 : decode cL_isStep 841 = .ok (.if_icmp .ne 88, 3) := by decide +kernel
theorem dL_isStep_844 : decode cL_isStep 844 = .ok (.iload 10, 2) := by decide +kernel
theorem dL_isStep_846 : decode cL_isStep 846 = .ok (.iload 7, 2) := by decide +kernel
theorem dL_isStep_848 : decode cL_isStep 848 = .ok (.ifCond .ge 7, 3) := by decide +kernel
theorem dL_isStep_851 : decode cL_isStep 851 = .ok (.iconst (-1), 1) := by decide +kernel
theorem dL_isStep_852 : decode cL_isStep 852 = .ok (.goto 17, 3) := by decide +kernel
theorem dL_isStep_855 : decode cL_isStep 855 = .ok (.iload 7, 2) := by decide +kernel
theorem dL_isStep_857 : decode cL_isStep 857 = .ok (.ifCond .le 8, 3) := by decide +kernel
theorem dL_isStep_860 : decode cL_isStep 860 = .ok (.bipush (-5), 2) := by decide +kernel
theorem dL_isStep_862 : decode cL_isStep 862 = .ok (.goto 7, 3) := by decide +kernel
theorem dL_isStep_865 : decode cL_isStep 865 = .ok (.iload 8, 2) := by decide +kernel
theorem dL_isStep_867 : decode cL_isStep 867 = .ok (.iconst 2, 1) := by decide +kernel
theorem dL_isStep_868 : decode cL_isStep 868 = .ok (.iadd, 1) := by decide +kernel
theorem dL_isStep_869 : decode cL_isStep 869 = .ok (.if_icmp .ne 60, 3) := by decide +kernel
theorem dL_isStep_872 : decode cL_isStep 872 = .ok (.aload_n 0, 1) := by decide +kernel
theorem dL_isStep_873 : decode cL_isStep 873 = .ok (.bipush 8, 2) := by decide +kernel
theorem dL_isStep_875 : decode cL_isStep 875 = .ok (.invokevirtual 21, 3) := by decide +kernel
theorem dL_isStep_878 : decode cL_isStep 878 = .ok (.iload 9, 2) := by decide +kernel
theorem dL_isStep_880 : decode cL_isStep 880 = .ok (.iload 7, 2) := by decide +kernel
theorem dL_isStep_882 : decode cL_isStep 882 = .ok (.ifCond .ne 10, 3) := by decide +kernel
theorem dL_isStep_885 : decode cL_isStep 885 = .ok (.iconst 2, 1) := by decide +kernel
theorem dL_isStep_886 : decode cL_isStep 886 = .ok (.iload 11, 2) := by decide +kernel
theorem dL_isStep_888 : decode cL_isStep 888 = .ok (.iadd, 1) := by decide +kernel
theorem dL_isStep_889 : decode cL_isStep 889 = .ok (.goto 4, 3) := by decide +kernel
theorem dL_isStep_892 : decode cL_isStep 892 = .ok (.iconst 0, 1) := by decide +kernel
theorem dL_isStep_893 : decode cL_isStep 893 = .ok (.iadd, 1) := by decide +kernel
theorem dL_isStep_894 : decode cL_isStep 894 = .ok (.if_icmp .ne 35, 3) := by decide +kernel
theorem dL_isStep_897 : decode cL_isStep 897 = .ok (.iload 7, 2) := by decide +kernel
theorem dL_isStep_899 : decode cL_isStep 899 = .ok (.ifCond .ne 26, 3) := by decide +kernel
theorem dL_isStep_902 : decode cL_isStep 902 = .ok (.aload_n 0, 1) := by decide +kernel
theorem dL_isStep_903 : decode cL_isStep 903 = .ok (.iload 6, 2) := by decide +kernel
theorem dL_isStep_905 : decode cL_isStep 905 = .ok (.iconst 0, 1) := by decide +kernel
theorem dL_isStep_906 : decode cL_isStep 906 = .ok (.invokevirtual 52, 3) := by decide +kernel
theorem dL_isStep_909 : decode cL_isStep 909 = .ok (.iload 5, 2) := by decide +kernel
theorem dL_isStep_911 : decode cL_isStep 911 = .ok (.if_icmp .ne 18, 3) := by decide +kernel
theorem dL_isStep_914 : decode cL_isStep 914 = .ok (.aload_n 0, 1) := by decide +kernel
theorem dL_isStep_915 : decode cL_isStep 915 = .ok (.iload 5, 2) := by decide +kernel
theorem dL_isStep_917 : decode cL_isStep 917 = .ok (.iconst 1, 1) := by decide +kernel
theorem dL_isStep_918 : decode cL_isStep 918 = .ok (.invokevirtual 40, 3) := by decide +kernel
theorem dL_isStep_921 : decode cL_isStep 921 = .ok (.iconst 1, 1) := by decide +kernel
theorem dL_isStep_922 : decode cL_isStep 922 = .ok (.if_icmp .ne 7, 3) := by decide +kernel
theorem dL_isStep_925 : decode cL_isStep 925 = .ok (.iconst 1, 1) := by decide +kernel
theorem dL_isStep_926 : decode cL_isStep 926 = .ok (.goto 4, 3) := by decide +kernel
theorem dL_isStep_929 : decode cL_isStep 929 = .ok (.iconst 0, 1) := by decide +kernel
theorem dL_isStep_930 : decode cL_isStep 930 = .ok (.ireturn, 1) := by decide +kernel
set_option maxRecDepth 20000 in
theorem ggL_areAlike_L_up : GoodIn wsL_areAlike wsL_up := goodIn_r _ [4, 5] (by decide +kernel) (by decide +kernel)
set_option maxRecDepth 20000 in
theorem gL_areAlike_L_up : GoodIn wsL_areAlike (va_wsS RL 9 yL_up wsL_up) := goodIn_app (goodIn_of _ (by decide +kernel)) ggL_areAlike_L_up
set_option maxRecDepth 20000 in
theorem ggL_areAlike_X1_untilPosted : GoodIn wsL_areAlike wsX1_untilPosted := goodIn_r _ [10, 11, 12, 13, 14, 15, 9, 16, 17, 18, 19, 20, 21, 22, 23, 24, 25, 26, 27, 28, 29, 30, 31, 32, 33, 34, 35, 36, 37, 38, 39, 40, 41, 42, 43, 44, 45, 46, 47, 48, 49, 50, 51, 52, 53, 54, 55, 56, 57, 58, 59, 60, 61, 62, 63, 64, 65, 66, 67, 68, 69, 70, 71, 72, 73, 74, 75, 76, 77, 78, 79, 80, 81, 82, 83, 84, 85, 86, 87, 88, 89, 90, 91, 92, 93, 94, 95, 96, 97, 98, 99, 100, 101, 102, 103, 104, 105, 106, 107, 108, 109, 110, 111, 112, 113, 114, 115, 116, 117, 118, 186, 187, 188, 189, 190, 191, 192, 193, 194, 195, 196, 197, 198, 199, 200, 201, 202, 203, 204, 205, 206, 207, 208, 209] (by decide +kernel) (by decide +kernel)
set_option maxRecDepth 20000 in
theorem gL_areAlike_X1_untilPosted : GoodIn wsL_areAlike (wsV RL 80 RX1 yX1_untilPosted wsX1_untilPosted) := goodIn_app (goodIn_of _ (by decide +kernel)) ggL_areAlike_X1_untilPosted
set_option maxRecDepth 20000 in
theorem ggL_areAlike_X1_count : GoodIn wsL_areAlike wsX1_count := goodIn_r _ [122, 11, 20, 21, 22, 12, 38, 36, 123, 124, 125, 126, 127, 49, 128, 56, 58, 59, 60, 61, 62, 63, 64, 65, 66, 67, 68, 69, 70, 71, 129, 130, 131, 132, 14, 15, 9, 16, 133, 134, 135, 136, 137, 138, 139, 140, 141, 142, 80, 81, 82, 83, 84, 85, 86, 87, 88, 186, 187, 188, 189, 190, 191, 192, 193, 194, 195, 196, 197, 198, 199, 200, 201, 202, 203, 204, 205, 206, 207, 208, 209] (by decide +kernel) (by decide +kernel)
set_option maxRecDepth 20000 in
theorem gL_areAlike_X1_count : GoodIn wsL_areAlike (wsV RL 21 RX1 yX1_count wsX1_count) := goodIn_app (goodIn_of _ (by decide +kernel)) ggL_areAlike_X1_count
set_option maxRecDepth 20000 in
theorem ggL_areAlike_X1_ifPassed : GoodIn wsL_areAlike wsX1_ifPassed := goodIn_r _ [146, 11, 13, 38, 12, 17, 18, 9, 19, 20, 21, 22, 23, 24, 25, 26, 27, 28, 29, 30, 31, 32, 33, 34, 35, 36, 37, 39, 40, 41, 42, 43, 44, 45, 46, 47, 48, 49, 50, 51, 52, 53, 54, 55, 56, 57, 58, 59, 60, 61, 62, 63, 64, 65, 66, 67, 68, 69, 70, 71, 72, 73, 74, 75, 76, 77, 78, 79, 80, 81, 82, 83, 84, 85, 86, 87, 88, 89, 90, 91, 92, 93, 94, 95, 96, 97, 98, 99, 100, 101, 102, 103, 104, 105, 106, 107, 108, 109, 110, 111, 112, 113, 114, 115, 116, 117, 118, 14, 15, 16, 186, 187, 188, 189, 190, 191, 192, 193, 194, 195, 196, 197, 198, 199, 200, 201, 202, 203, 204, 205, 206, 207, 208, 209] (by decide +kernel) (by decide +kernel)
set_option maxRecDepth 20000 in
theorem gL_areAlike_X1_ifPassed : GoodIn wsL_areAlike (wsV RL 83 RX1 yX1_ifPassed wsX1_ifPassed) := goodIn_app (goodIn_of _ (by decide +kernel)) ggL_areAlike_X1_ifPassed
set_option maxRecDepth 20000 in
theorem ggL_areAlike_X1_name : GoodIn wsL_areAlike wsX1_name := goodIn_r _ [150, 11, 34, 33, 32, 36, 151, 86, 87, 49, 88, 56, 152, 63, 64, 65, 66, 67, 68, 69, 70, 71, 153, 154, 155, 156, 157, 158, 159, 160, 57, 58, 59, 60, 61, 62, 186, 187, 188, 189, 190, 191, 192, 193, 194, 195, 196, 197, 198, 199, 200, 201, 202, 203, 204, 205, 206, 207, 208, 209] (by decide +kernel) (by decide +kernel)
set_option maxRecDepth 20000 in
theorem gL_areAlike_X1_name : GoodIn wsL_areAlike (wsV RL 40 RX1 yX1_name wsX1_name) := goodIn_app (goodIn_of _ (by decide +kernel)) ggL_areAlike_X1_name
set_option maxRecDepth 20000 in
theorem ggL_areAlike_X1_bestCorner : GoodIn wsL_areAlike wsX1_bestCorner := goodIn_r _ [164, 11, 151, 86, 87, 49, 88, 56, 165, 73, 74, 75, 67, 68, 69, 70, 71, 76, 77, 78, 79, 80, 81, 82, 83, 84, 85, 89, 90, 91, 92, 93, 94, 95, 26, 96, 97, 25, 27, 98, 99, 100, 101, 66, 57, 51, 102, 186, 187, 188, 189, 190, 191, 192, 193, 194, 195, 196, 197, 198, 199, 200, 201, 202, 203, 204, 205, 206, 207, 208, 209] (by decide +kernel) (by decide +kernel)
set_option maxRecDepth 20000 in
theorem gL_areAlike_X1_bestCorner : GoodIn wsL_areAlike (wsV RL 86 RX1 yX1_bestCorner wsX1_bestCorner) := goodIn_app (goodIn_of _ (by decide +kernel)) ggL_areAlike_X1_bestCorner
set_option maxRecDepth 20000 in
theorem ggL_areAlike_X1_why : GoodIn wsL_areAlike wsX1_why := goodIn_r _ [169, 11, 151, 86, 87, 49, 88, 56, 170, 171, 9, 172, 173, 174, 175, 176, 67, 68, 69, 70, 71, 76, 77, 78, 79, 80, 81, 82, 83, 84, 85, 89, 90, 91, 92, 93, 94, 95, 26, 96, 97, 25, 27, 98, 99, 100, 101, 66, 57, 51, 102, 186, 187, 188, 189, 190, 191, 192, 193, 194, 195, 196, 197, 198, 199, 200, 201, 202, 203, 204, 205, 206, 207, 208, 209] (by decide +kernel) (by decide +kernel)
set_option maxRecDepth 20000 in
theorem gL_areAlike_X1_why : GoodIn wsL_areAlike (wsV RL 74 RX1 yX1_why wsX1_why) := goodIn_app (goodIn_of _ (by decide +kernel)) ggL_areAlike_X1_why
set_option maxRecDepth 20000 in
theorem ggL_areAlike_X1_corner : GoodIn wsL_areAlike wsX1_corner := goodIn_r _ [180, 11, 37, 12, 38, 39, 40, 42, 170, 171, 9, 172, 186, 187, 188, 189, 190, 191, 192, 193, 194, 195, 196, 197, 198, 199, 200, 201, 202, 203, 204, 205, 206, 207, 208, 209] (by decide +kernel) (by decide +kernel)
set_option maxRecDepth 20000 in
theorem gL_areAlike_X1_corner : GoodIn wsL_areAlike (wsV RL 52 RX1 yX1_corner wsX1_corner) := goodIn_app (goodIn_of _ (by decide +kernel)) ggL_areAlike_X1_corner
set_option maxRecDepth 20000 in
theorem ggL_areAlike_X1_untilBorne : GoodIn wsL_areAlike wsX1_untilBorne := goodIn_r _ [184, 11, 13, 151, 86, 87, 49, 88, 56, 185, 68, 69, 70, 71, 17, 18, 9, 19, 20, 21, 22, 23, 24, 25, 26, 27, 28, 29, 30, 31, 32, 33, 34, 35, 36, 37, 12, 38, 39, 40, 41, 42, 43, 44, 45, 46, 47, 48, 50, 51, 52, 53, 54, 55, 57, 58, 59, 60, 61, 62, 63, 64, 65, 66, 67, 72, 73, 74, 75, 76, 77, 78, 79, 80, 81, 82, 83, 84, 85, 89, 90, 91, 92, 93, 94, 95, 96, 97, 98, 99, 100, 101, 102, 103, 104, 105, 106, 107, 108, 109, 110, 111, 112, 113, 114, 115, 116, 117, 118, 186, 187, 188, 189, 190, 191, 192, 193, 194, 195, 196, 197, 198, 199, 200, 201, 202, 203, 204, 205, 206, 207, 208, 209] (by decide +kernel) (by decide +kernel)
set_option maxRecDepth 20000 in
theorem gL_areAlike_X1_untilBorne : GoodIn wsL_areAlike (wsV RL 89 RX1 yX1_untilBorne wsX1_untilBorne) := goodIn_app (goodIn_of _ (by decide +kernel)) ggL_areAlike_X1_untilBorne
theorem dL_areAlike_0 : decode cL_areAlike 0 = .ok (.iconst 1, 1) := by decide +kernel
theorem dL_areAlike_1 : decode cL_areAlike 1 = .ok (.iload_n 2, 1) := by decide +kernel
theorem dL_areAlike_2 : decode cL_areAlike 2 = .ok (.sipush 300, 3) := by decide +kernel
theorem dL_areAlike_5 : decode cL_areAlike 5 = .ok (.invokestatic 9, 3) := by decide +kernel
theorem dL_areAlike_8 : decode cL_areAlike 8 = .ok (.iadd, 1) := by decide +kernel
theorem dL_areAlike_9 : decode cL_areAlike 9 = .ok (.istore_n 3, 1) := by decide +kernel
theorem dL_areAlike_10 : decode cL_areAlike 10 = .ok (.aload_n 0, 1) := by decide +kernel
theorem dL_areAlike_11 : decode cL_areAlike 11 = .ok (.invokevirtual 80, 3) := by decide +kernel
theorem dL_areAlike_14 : decode cL_areAlike 14 = .ok (.aload_n 1, 1) := by decide +kernel
theorem dL_areAlike_15 : decode cL_areAlike 15 = .ok (.invokevirtual 80, 3) := by decide +kernel
theorem dL_areAlike_18 : decode cL_areAlike 18 = .ok (.if_icmp .ne 7, 3) := by decide +kernel
theorem dL_areAlike_21 : decode cL_areAlike 21 = .ok (.iconst 1, 1) := by decide +kernel
theorem dL_areAlike_22 : decode cL_areAlike 22 = .ok (.goto 4, 3) := by decide +kernel
theorem dL_areAlike_25 : decode cL_areAlike 25 = .ok (.iconst 0, 1) := by decide +kernel
theorem dL_areAlike_26 : decode cL_areAlike 26 = .ok (.istore 4, 2) := by decide +kernel
theorem dL_areAlike_28 : decode cL_areAlike 28 = .ok (.iconst 0, 1) := by decide +kernel
theorem dL_areAlike_29 : decode cL_areAlike 29 = .ok (.istore 5, 2) := by decide +kernel
theorem dL_areAlike_31 : decode cL_areAlike 31 = .ok (.iload 5, 2) := by decide +kernel
theorem dL_areAlike_33 : decode cL_areAlike 33 = .ok (.bipush 13, 2) := by decide +kernel
theorem dL_areAlike_35 : decode cL_areAlike 35 = .ok (.if_icmp .ge 59, 3) := by decide +kernel
theorem dL_areAlike_38 : decode cL_areAlike 38 = .ok (.iload 4, 2) := by decide +kernel
theorem dL_areAlike_40 : decode cL_areAlike 40 = .ok (.ifCond .eq 45, 3) := by decide +kernel
theorem dL_areAlike_43 : decode cL_areAlike 43 = .ok (.aload_n 0, 1) := by decide +kernel
theorem dL_areAlike_44 : decode cL_areAlike 44 = .ok (.iload 5, 2) := by decide +kernel
theorem dL_areAlike_46 : decode cL_areAlike 46 = .ok (.invokevirtual 21, 3) := by decide +kernel
theorem dL_areAlike_49 : decode cL_areAlike 49 = .ok (.aload_n 1, 1) := by decide +kernel
theorem dL_areAlike_50 : decode cL_areAlike 50 = .ok (.iload 5, 2) := by decide +kernel
theorem dL_areAlike_52 : decode cL_areAlike 52 = .ok (.invokevirtual 21, 3) := by decide +kernel
