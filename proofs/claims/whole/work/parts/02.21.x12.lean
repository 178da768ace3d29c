theorem dX12_load_33 : decode cX12_load 33 = .ok (.invokestatic 83, 3) := by decide +kernel
theorem dX12_load_36 : decode cX12_load 36 = .ok (.ifCond .ne 9, 3) := by decide +kernel
theorem dX12_load_39 : decode cX12_load 39 = .ok (.aload_n 0, 1) := by decide +kernel
theorem dX12_load_40 : decode cX12_load 40 = .ok (.iconst 2, 1) := by decide +kernel
theorem dX12_load_41 : decode cX12_load 41 = .ok (.invokevirtual 95, 3) := by decide +kernel
theorem dX12_load_44 : decode cX12_load 44 = .ok (.ireturn, 1) := by decide +kernel
theorem dX12_load_45 : decode cX12_load 45 = .ok (.aload_n 0, 1) := by decide +kernel
theorem dX12_load_46 : decode cX12_load 46 = .ok (.getfield 9, 3) := by decide +kernel
theorem dX12_load_49 : decode cX12_load 49 = .ok (.aload_n 0, 1) := by decide +kernel
theorem dX12_load_50 : decode cX12_load 50 = .ok (.iload_n 1, 1) := by decide +kernel
theorem dX12_load_51 : decode cX12_load 51 = .ok (.invokevirtual 293, 3) := by decide +kernel
theorem dX12_load_54 : decode cX12_load 54 = .ok (.iaload, 1) := by decide +kernel
theorem dX12_load_55 : decode cX12_load 55 = .ok (.iload_n 3, 1) := by decide +kernel
theorem dX12_load_56 : decode cX12_load 56 = .ok (.iadd, 1) := by decide +kernel
theorem dX12_load_57 : decode cX12_load 57 = .ok (.bipush 20, 2) := by decide +kernel
theorem dX12_load_59 : decode cX12_load 59 = .ok (.if_icmp .le 5, 3) := by decide +kernel
theorem dX12_load_62 : decode cX12_load 62 = .ok (.iconst (-1), 1) := by decide +kernel
theorem dX12_load_63 : decode cX12_load 63 = .ok (.ireturn, 1) := by decide +kernel
theorem dX12_load_64 : decode cX12_load 64 = .ok (.iconst 0, 1) := by decide +kernel
theorem dX12_load_65 : decode cX12_load 65 = .ok (.istore 4, 2) := by decide +kernel
theorem dX12_load_67 : decode cX12_load 67 = .ok (.iload 4, 2) := by decide +kernel
theorem dX12_load_69 : decode cX12_load 69 = .ok (.iload_n 3, 1) := by decide +kernel
theorem dX12_load_70 : decode cX12_load 70 = .ok (.if_icmp .ge 15, 3) := by decide +kernel
theorem dX12_load_73 : decode cX12_load 73 = .ok (.aload_n 0, 1) := by decide +kernel
theorem dX12_load_74 : decode cX12_load 74 = .ok (.iload_n 1, 1) := by decide +kernel
theorem dX12_load_75 : decode cX12_load 75 = .ok (.iload_n 2, 1) := by decide +kernel
theorem dX12_load_76 : decode cX12_load 76 = .ok (.invokevirtual 298, 3) := by decide +kernel
theorem dX12_load_79 : decode cX12_load 79 = .ok (.iinc 4 1, 3) := by decide +kernel
theorem dX12_load_82 : decode cX12_load 82 = .ok (.goto (-15), 3) := by decide +kernel
theorem dX12_load_85 : decode cX12_load 85 = .ok (.aload_n 0, 1) := by decide +kernel
theorem dX12_load_86 : decode cX12_load 86 = .ok (.getfield 9, 3) := by decide +kernel
theorem dX12_load_89 : decode cX12_load 89 = .ok (.sipush 335, 3) := by decide +kernel
theorem dX12_load_92 : decode cX12_load 92 = .ok (.iload_n 1, 1) := by decide +kernel
theorem dX12_load_93 : decode cX12_load 93 = .ok (.iadd, 1) := by decide +kernel
theorem dX12_load_94 : decode cX12_load 94 = .ok (.dup2, 1) := by decide +kernel
theorem dX12_load_95 : decode cX12_load 95 = .ok (.iaload, 1) := by decide +kernel
theorem dX12_load_96 : decode cX12_load 96 = .ok (.iload_n 3, 1) := by decide +kernel
theorem dX12_load_97 : decode cX12_load 97 = .ok (.iadd, 1) := by decide +kernel
theorem dX12_load_98 : decode cX12_load 98 = .ok (.iastore, 1) := by decide +kernel
theorem dX12_load_99 : decode cX12_load 99 = .ok (.aload_n 0, 1) := by decide +kernel
theorem dX12_load_100 : decode cX12_load 100 = .ok (.getfield 9, 3) := by decide +kernel
theorem dX12_load_103 : decode cX12_load 103 = .ok (.aload_n 0, 1) := by decide +kernel
theorem dX12_load_104 : decode cX12_load 104 = .ok (.iload_n 1, 1) := by decide +kernel
theorem dX12_load_105 : decode cX12_load 105 = .ok (.invokevirtual 293, 3) := by decide +kernel
theorem dX12_load_108 : decode cX12_load 108 = .ok (.iaload, 1) := by decide +kernel
theorem dX12_load_109 : decode cX12_load 109 = .ok (.ireturn, 1) := by decide +kernel
set_option maxRecDepth 20000 in
theorem ggX12_tube_X12_isSort : GoodIn wsX12_tube wsX12_isSort := goodIn_r _ [8, 9, 10, 11, 7, 12, 3, 13, 14, 15, 24, 25, 26, 27, 28, 29, 30, 31, 32, 33, 34, 35, 36, 37, 38, 39, 40, 41, 42, 43, 44, 45, 46, 47, 48, 49, 50, 51, 52, 53, 54, 55, 56, 57, 58] (by decide +kernel) (by decide +kernel)
set_option maxRecDepth 20000 in
theorem gX12_tube_X12_isSort : GoodIn wsX12_tube (wsV RX12 99 RX12 yX12_isSort wsX12_isSort) := goodIn_app (goodIn_of _ (by decide +kernel)) ggX12_tube_X12_isSort
set_option maxRecDepth 20000 in
theorem ggX12_tube_X12_fails : GoodIn wsX12_tube wsX12_fails := goodIn_r _ [19, 1, 24, 25, 26, 27, 28, 29, 30, 31, 32, 33, 34, 35, 36, 37, 38, 39, 40, 41, 42, 43, 44, 45, 46, 47, 48, 49, 50, 51, 52, 53, 54, 55, 56, 57, 58] (by decide +kernel) (by decide +kernel)
set_option maxRecDepth 20000 in
theorem gX12_tube_X12_fails : GoodIn wsX12_tube (wsV RX12 95 RX12 yX12_fails wsX12_fails) := goodIn_app (goodIn_of _ (by decide +kernel)) ggX12_tube_X12_fails
set_option maxRecDepth 20000 in
theorem ggX12_tube_X12_within : GoodIn wsX12_tube wsX12_within := goodIn_r _ [15] (by decide +kernel) (by decide +kernel)
set_option maxRecDepth 20000 in
theorem gX12_tube_X12_within : GoodIn wsX12_tube (va_wsS RX12 83 yX12_within wsX12_within) := goodIn_app (goodIn_of _ (by decide +kernel)) ggX12_tube_X12_within
set_option maxRecDepth 20000 in
theorem ggX12_tube_X12_tubeAt : GoodIn wsX12_tube wsX12_tubeAt := goodIn_r _ [23] (by decide +kernel) (by decide +kernel)
set_option maxRecDepth 20000 in
theorem gX12_tube_X12_tubeAt : GoodIn wsX12_tube (wsV RX12 293 RX12 yX12_tubeAt wsX12_tubeAt) := goodIn_app (goodIn_of _ (by decide +kernel)) ggX12_tube_X12_tubeAt
theorem dX12_tube_0 : decode cX12_tube 0 = .ok (.aload_n 0, 1) := by decide +kernel
theorem dX12_tube_1 : decode cX12_tube 1 = .ok (.iconst 0, 1) := by decide +kernel
theorem dX12_tube_2 : decode cX12_tube 2 = .ok (.putfield 80, 3) := by decide +kernel
theorem dX12_tube_5 : decode cX12_tube 5 = .ok (.aload_n 0, 1) := by decide +kernel
theorem dX12_tube_6 : decode cX12_tube 6 = .ok (.iload_n 1, 1) := by decide +kernel
theorem dX12_tube_7 : decode cX12_tube 7 = .ok (.invokevirtual 99, 3) := by decide +kernel
theorem dX12_tube_10 : decode cX12_tube 10 = .ok (.ifCond .ne 9, 3) := by decide +kernel
theorem dX12_tube_13 : decode cX12_tube 13 = .ok (.aload_n 0, 1) := by decide +kernel
theorem dX12_tube_14 : decode cX12_tube 14 = .ok (.iconst 1, 1) := by decide +kernel
theorem dX12_tube_15 : decode cX12_tube 15 = .ok (.invokevirtual 95, 3) := by decide +kernel
theorem dX12_tube_18 : decode cX12_tube 18 = .ok (.ireturn, 1) := by decide +kernel
theorem dX12_tube_19 : decode cX12_tube 19 = .ok (.iload_n 2, 1) := by decide +kernel
theorem dX12_tube_20 : decode cX12_tube 20 = .ok (.i2l, 1) := by decide +kernel
theorem dX12_tube_21 : decode cX12_tube 21 = .ok (.lconst 0, 1) := by decide +kernel
theorem dX12_tube_22 : decode cX12_tube 22 = .ok (.ldc2_w 103, 3) := by decide +kernel
theorem dX12_tube_25 : decode cX12_tube 25 = .ok (.invokestatic 83, 3) := by decide +kernel
theorem dX12_tube_28 : decode cX12_tube 28 = .ok (.ifCond .ne 9, 3) := by decide +kernel
theorem dX12_tube_31 : decode cX12_tube 31 = .ok (.aload_n 0, 1) := by decide +kernel
theorem dX12_tube_32 : decode cX12_tube 32 = .ok (.iconst 2, 1) := by decide +kernel
theorem dX12_tube_33 : decode cX12_tube 33 = .ok (.invokevirtual 95, 3) := by decide +kernel
theorem dX12_tube_36 : decode cX12_tube 36 = .ok (.ireturn, 1) := by decide +kernel
theorem dX12_tube_37 : decode cX12_tube 37 = .ok (.aload_n 0, 1) := by decide +kernel
theorem dX12_tube_38 : decode cX12_tube 38 = .ok (.iload_n 1, 1) := by decide +kernel
theorem dX12_tube_39 : decode cX12_tube 39 = .ok (.invokevirtual 293, 3) := by decide +kernel
theorem dX12_tube_42 : decode cX12_tube 42 = .ok (.istore_n 3, 1) := by decide +kernel
theorem dX12_tube_43 : decode cX12_tube 43 = .ok (.iload_n 2, 1) := by decide +kernel
theorem dX12_tube_44 : decode cX12_tube 44 = .ok (.ifCond .ne 10, 3) := by decide +kernel
theorem dX12_tube_47 : decode cX12_tube 47 = .ok (.aload_n 0, 1) := by decide +kernel
theorem dX12_tube_48 : decode cX12_tube 48 = .ok (.getfield 9, 3) := by decide +kernel
theorem dX12_tube_51 : decode cX12_tube 51 = .ok (.iload_n 3, 1) := by decide +kernel
theorem dX12_tube_52 : decode cX12_tube 52 = .ok (.iaload, 1) := by decide +kernel
theorem dX12_tube_53 : decode cX12_tube 53 = .ok (.ireturn, 1) := by decide +kernel
theorem dX12_tube_54 : decode cX12_tube 54 = .ok (.iload_n 2, 1) := by decide +kernel
theorem dX12_tube_55 : decode cX12_tube 55 = .ok (.iconst 2, 1) := by decide +kernel
theorem dX12_tube_56 : decode cX12_tube 56 = .ok (.if_icmp .ne 30, 3) := by decide +kernel
theorem dX12_tube_59 : decode cX12_tube 59 = .ok (.aload_n 0, 1) := by decide +kernel
theorem dX12_tube_60 : decode cX12_tube 60 = .ok (.getfield 9, 3) := by decide +kernel
theorem dX12_tube_63 : decode cX12_tube 63 = .ok (.iload_n 3, 1) := by decide +kernel
theorem dX12_tube_64 : decode cX12_tube 64 = .ok (.iaload, 1) := by decide +kernel
theorem dX12_tube_65 : decode cX12_tube 65 = .ok (.ifCond .ne 7, 3) := by decide +kernel
theorem dX12_tube_68 : decode cX12_tube 68 = .ok (.iconst (-1), 1) := by decide +kernel
theorem dX12_tube_69 : decode cX12_tube 69 = .ok (.goto 16, 3) := by decide +kernel
theorem dX12_tube_72 : decode cX12_tube 72 = .ok (.aload_n 0, 1) := by decide +kernel
theorem dX12_tube_73 : decode cX12_tube 73 = .ok (.getfield 9, 3) := by decide +kernel
theorem dX12_tube_76 : decode cX12_tube 76 = .ok (.iload_n 3, 1) := by decide +kernel
theorem dX12_tube_77 : decode cX12_tube 77 = .ok (.aload_n 0, 1) := by decide +kernel
theorem dX12_tube_78 : decode cX12_tube 78 = .ok (.getfield 9, 3) := by decide +kernel
theorem dX12_tube_81 : decode cX12_tube 81 = .ok (.iload_n 3, 1) := by decide +kernel
theorem dX12_tube_82 : decode cX12_tube 82 = .ok (.iaload, 1) := by decide +kernel
theorem dX12_tube_83 : decode cX12_tube 83 = .ok (.iadd, 1) := by decide +kernel
theorem dX12_tube_84 : decode cX12_tube 84 = .ok (.iaload, 1) := by decide +kernel
theorem dX12_tube_85 : decode cX12_tube 85 = .ok (.ireturn, 1) := by decide +kernel
theorem dX12_tube_86 : decode cX12_tube 86 = .ok (.iconst 0, 1) := by decide +kernel
theorem dX12_tube_87 : decode cX12_tube 87 = .ok (.istore 4, 2) := by decide +kernel
theorem dX12_tube_89 : decode cX12_tube 89 = .ok (.iconst 1, 1) := by decide +kernel
theorem dX12_tube_90 : decode cX12_tube 90 = .ok (.istore 5, 2) := by decide +kernel
theorem dX12_tube_92 : decode cX12_tube 92 = .ok (.iload 5, 2) := by decide +kernel
theorem dX12_tube_94 : decode cX12_tube 94 = .ok (.aload_n 0, 1) := by decide +kernel
theorem dX12_tube_95 : decode cX12_tube 95 = .ok (.getfield 9, 3) := by decide +kernel
theorem dX12_tube_98 : decode cX12_tube 98 = .ok (.iload_n 3, 1) := by decide +kernel
theorem dX12_tube_99 : decode cX12_tube 99 = .ok (.iaload, 1) := by decide +kernel
theorem dX12_tube_100 : decode cX12_tube 100 = .ok (.if_icmp .gt 32, 3) := by decide +kernel
theorem dX12_tube_103 : decode cX12_tube 103 = .ok (.iload 4, 2) := by decide +kernel
theorem dX12_tube_105 : decode cX12_tube 105 = .ok (.aload_n 0, 1) := by decide +kernel
theorem dX12_tube_106 : decode cX12_tube 106 = .ok (.getfield 9, 3) := by decide +kernel
theorem dX12_tube_109 : decode cX12_tube 109 = .ok (.iload_n 3, 1) := by decide +kernel
theorem dX12_tube_110 : decode cX12_tube 110 = .ok (.iload 5, 2) := by decide +kernel
theorem dX12_tube_112 : decode cX12_tube 112 = .ok (.iadd, 1) := by decide +kernel
theorem dX12_tube_113 : decode cX12_tube 113 = .ok (.iaload, 1) := by decide +kernel
theorem dX12_tube_114 : decode cX12_tube 114 = .ok (.iload_n 1, 1) := by decide +kernel
theorem dX12_tube_115 : decode cX12_tube 115 = .ok (.if_icmp .ne 7, 3) := by decide +kernel
theorem dX12_tube_118 : decode cX12_tube 118 = .ok (.iconst 0, 1) := by decide +kernel
theorem dX12_tube_119 : decode cX12_tube 119 = .ok (.goto 4, 3) := by decide +kernel
theorem dX12_tube_122 : decode cX12_tube 122 = .ok (.iconst 1, 1) := by decide +kernel
theorem dX12_tube_123 : decode cX12_tube 123 = .ok (.iadd, 1) := by decide +kernel
theorem dX12_tube_124 : decode cX12_tube 124 = .ok (.istore 4, 2) := by decide +kernel
theorem dX12_tube_126 : decode cX12_tube 126 = .ok (.iinc 5 1, 3) := by decide +kernel
theorem dX12_tube_129 : decode cX12_tube 129 = .ok (.goto (-37), 3) := by decide +kernel
theorem dX12_tube_132 : decode cX12_tube 132 = .ok (.iload 4, 2) := by decide +kernel
theorem dX12_tube_134 : decode cX12_tube 134 = .ok (.ireturn, 1) := by decide +kernel
set_option maxRecDepth 20000 in
theorem ggX12_bag_X12_isSort : GoodIn wsX12_bag wsX12_isSort := goodIn_r _ [7, 8, 9, 10, 6, 11, 2, 12, 13, 14, 19, 20, 21, 22, 23, 24, 25, 26, 27, 28, 29, 30, 31, 32, 33, 34, 35, 36, 37, 38, 39, 40, 41, 42, 43, 44, 45, 46, 47, 48, 49, 50, 51, 52, 53] (by decide +kernel) (by decide +kernel)
set_option maxRecDepth 20000 in
theorem gX12_bag_X12_isSort : GoodIn wsX12_bag (wsV RX12 99 RX12 yX12_isSort wsX12_isSort) := goodIn_app (goodIn_of _ (by decide +kernel)) ggX12_bag_X12_isSort
set_option maxRecDepth 20000 in
theorem ggX12_bag_X12_fails : GoodIn wsX12_bag wsX12_fails := goodIn_r _ [18, 1, 19, 20, 21, 22, 23, 24, 25, 26, 27, 28, 29, 30, 31, 32, 33, 34, 35, 36, 37, 38, 39, 40, 41, 42, 43, 44, 45, 46, 47, 48, 49, 50, 51, 52, 53] (by decide +kernel) (by decide +kernel)
set_option maxRecDepth 20000 in
theorem gX12_bag_X12_fails : GoodIn wsX12_bag (wsV RX12 95 RX12 yX12_fails wsX12_fails) := goodIn_app (goodIn_of _ (by decide +kernel)) ggX12_bag_X12_fails
theorem dX12_bag_0 : decode cX12_bag 0 = .ok (.aload_n 0, 1) := by decide +kernel
theorem dX12_bag_1 : decode cX12_bag 1 = .ok (.iconst 0, 1) := by decide +kernel
theorem dX12_bag_2 : decode cX12_bag 2 = .ok (.putfield 80, 3) := by decide +kernel
theorem dX12_bag_5 : decode cX12_bag 5 = .ok (.aload_n 0, 1) := by decide +kernel
theorem dX12_bag_6 : decode cX12_bag 6 = .ok (.iload_n 1, 1) := by decide +kernel
theorem dX12_bag_7 : decode cX12_bag 7 = .ok (.invokevirtual 99, 3) := by decide +kernel
theorem dX12_bag_10 : decode cX12_bag 10 = .ok (.ifCond .eq 16, 3) := by decide +kernel
theorem dX12_bag_13 : decode cX12_bag 13 = .ok (.aload_n 0, 1) := by decide +kernel
theorem dX12_bag_14 : decode cX12_bag 14 = .ok (.getfield 9, 3) := by decide +kernel
theorem dX12_bag_17 : decode cX12_bag 17 = .ok (.sipush 327, 3) := by decide +kernel
theorem dX12_bag_20 : decode cX12_bag 20 = .ok (.iload_n 1, 1) := by decide +kernel
theorem dX12_bag_21 : decode cX12_bag 21 = .ok (.iadd, 1) := by decide +kernel
theorem dX12_bag_22 : decode cX12_bag 22 = .ok (.iaload, 1) := by decide +kernel
theorem dX12_bag_23 : decode cX12_bag 23 = .ok (.goto 8, 3) := by decide +kernel
theorem dX12_bag_26 : decode cX12_bag 26 = .ok (.aload_n 0, 1) := by decide +kernel
theorem dX12_bag_27 : decode cX12_bag 27 = .ok (.iconst 1, 1) := by decide +kernel
theorem dX12_bag_28 : decode cX12_bag 28 = .ok (.invokevirtual 95, 3) := by decide +kernel
theorem dX12_bag_31 : decode cX12_bag 31 = .ok (.ireturn, 1) := by decide +kernel
set_option maxRecDepth 20000 in
theorem ggX12_empty_X12_isSort : GoodIn wsX12_empty wsX12_isSort := goodIn_r _ [7, 8, 9, 10, 6, 11, 2, 12, 13, 14, 23, 24, 25, 26, 27, 28, 29, 30, 31, 32, 33, 34, 35, 36, 37, 38, 39, 40, 41, 42, 43, 44, 45, 46, 47, 48, 49, 50, 51, 52, 53, 54, 55, 56, 57] (by decide +kernel) (by decide +kernel)
set_option maxRecDepth 20000 in
theorem gX12_empty_X12_isSort : GoodIn wsX12_empty (wsV RX12 99 RX12 yX12_isSort wsX12_isSort) := goodIn_app (goodIn_of _ (by decide +kernel)) ggX12_empty_X12_isSort
set_option maxRecDepth 20000 in
theorem ggX12_empty_X12_fails : GoodIn wsX12_empty wsX12_fails := goodIn_r _ [18, 1, 23, 24, 25, 26, 27, 28, 29, 30, 31, 32, 33, 34, 35, 36, 37, 38, 39, 40, 41, 42, 43, 44, 45, 46, 47, 48, 49, 50, 51, 52, 53, 54, 55, 56, 57] (by decide +kernel) (by decide +kernel)
set_option maxRecDepth 20000 in
theorem gX12_empty_X12_fails : GoodIn wsX12_empty (wsV RX12 95 RX12 yX12_fails wsX12_fails) := goodIn_app (goodIn_of _ (by decide +kernel)) ggX12_empty_X12_fails
set_option maxRecDepth 20000 in
theorem ggX12_empty_X12_tubeAt : GoodIn wsX12_empty wsX12_tubeAt := goodIn_r _ [22] (by decide +kernel) (by decide +kernel)
set_option maxRecDepth 20000 in
theorem gX12_empty_X12_tubeAt : GoodIn wsX12_empty (wsV RX12 293 RX12 yX12_tubeAt wsX12_tubeAt) := goodIn_app (goodIn_of _ (by decide +kernel)) ggX12_empty_X12_tubeAt
theorem dX12_empty_0 : decode cX12_empty 0 = .ok (.aload_n 0, 1) := by decide +kernel
theorem dX12_empty_1 : decode cX12_empty 1 = .ok (.iconst 0, 1) := by decide +kernel
theorem dX12_empty_2 : decode cX12_empty 2 = .ok (.putfield 80, 3) := by decide +kernel
theorem dX12_empty_5 : decode cX12_empty 5 = .ok (.aload_n 0, 1) := by decide +kernel
theorem dX12_empty_6 : decode cX12_empty 6 = .ok (.iload_n 1, 1) := by decide +kernel
theorem dX12_empty_7 : decode cX12_empty 7 = .ok (.invokevirtual 99, 3) := by decide +kernel
theorem dX12_empty_10 : decode cX12_empty 10 = .ok (.ifCond .ne 9, 3) := by decide +kernel
theorem dX12_empty_13 : decode cX12_empty 13 = .ok (.aload_n 0, 1) := by decide +kernel
theorem dX12_empty_14 : decode cX12_empty 14 = .ok (.iconst 1, 1) := by decide +kernel
theorem dX12_empty_15 : decode cX12_empty 15 = .ok (.invokevirtual 95, 3) := by decide +kernel
theorem dX12_empty_18 : decode cX12_empty 18 = .ok (.ireturn, 1) := by decide +kernel
theorem dX12_empty_19 : decode cX12_empty 19 = .ok (.aload_n 0, 1) := by decide +kernel
theorem dX12_empty_20 : decode cX12_empty 20 = .ok (.iload_n 1, 1) := by decide +kernel
theorem dX12_empty_21 : decode cX12_empty 21 = .ok (.invokevirtual 293, 3) := by decide +kernel
theorem dX12_empty_24 : decode cX12_empty 24 = .ok (.istore_n 2, 1) := by decide +kernel
theorem dX12_empty_25 : decode cX12_empty 25 = .ok (.aload_n 0, 1) := by decide +kernel
theorem dX12_empty_26 : decode cX12_empty 26 = .ok (.getfield 9, 3) := by decide +kernel
theorem dX12_empty_29 : decode cX12_empty 29 = .ok (.iload_n 2, 1) := by decide +kernel
theorem dX12_empty_30 : decode cX12_empty 30 = .ok (.iaload, 1) := by decide +kernel
theorem dX12_empty_31 : decode cX12_empty 31 = .ok (.istore_n 3, 1) := by decide +kernel
theorem dX12_empty_32 : decode cX12_empty 32 = .ok (.iconst 1, 1) := by decide +kernel
theorem dX12_empty_33 : decode cX12_empty 33 = .ok (.istore 4, 2) := by decide +kernel
theorem dX12_empty_35 : decode cX12_empty 35 = .ok (.iload 4, 2) := by decide +kernel
theorem dX12_empty_37 : decode cX12_empty 37 = .ok (.iload_n 3, 1) := by decide +kernel
theorem dX12_empty_38 : decode cX12_empty 38 = .ok (.if_icmp .gt 31, 3) := by decide +kernel
theorem dX12_empty_41 : decode cX12_empty 41 = .ok (.aload_n 0, 1) := by decide +kernel
theorem dX12_empty_42 : decode cX12_empty 42 = .ok (.getfield 9, 3) := by decide +kernel
theorem dX12_empty_45 : decode cX12_empty 45 = .ok (.sipush 327, 3) := by decide +kernel
theorem dX12_empty_48 : decode cX12_empty 48 = .ok (.aload_n 0, 1) := by decide +kernel
theorem dX12_empty_49 : decode cX12_empty 49 = .ok (.getfield 9, 3) := by decide +kernel
theorem dX12_empty_52 : decode cX12_empty 52 = .ok (.iload_n 2, 1) := by decide +kernel
theorem dX12_empty_53 : decode cX12_empty 53 = .ok (.iload 4, 2) := by decide +kernel
theorem dX12_empty_55 : decode cX12_empty 55 = .ok (.iadd, 1) := by decide +kernel
theorem dX12_empty_56 : decode cX12_empty 56 = .ok (.iaload, 1) := by decide +kernel
theorem dX12_empty_57 : decode cX12_empty 57 = .ok (.iadd, 1) := by decide +kernel
theorem dX12_empty_58 : decode cX12_empty 58 = .ok (.dup2, 1) := by decide +kernel
theorem dX12_empty_59 : decode cX12_empty 59 = .ok (.iaload, 1) := by decide +kernel
theorem dX12_empty_60 : decode cX12_empty 60 = .ok (.iconst 1, 1) := by decide +kernel
theorem dX12_empty_61 : decode cX12_empty 61 = .ok (.iadd, 1) := by decide +kernel
theorem dX12_empty_62 : decode cX12_empty 62 = .ok (.iastore, 1) := by decide +kernel
theorem dX12_empty_63 : decode cX12_empty 63 = .ok (.iinc 4 1, 3) := by decide +kernel
theorem dX12_empty_66 : decode cX12_empty 66 = .ok (.goto (-31), 3) := by decide +kernel
theorem dX12_empty_69 : decode cX12_empty 69 = .ok (.aload_n 0, 1) := by decide +kernel
theorem dX12_empty_70 : decode cX12_empty 70 = .ok (.getfield 9, 3) := by decide +kernel
theorem dX12_empty_73 : decode cX12_empty 73 = .ok (.iload_n 2, 1) := by decide +kernel
theorem dX12_empty_74 : decode cX12_empty 74 = .ok (.iconst 0, 1) := by decide +kernel
theorem dX12_empty_75 : decode cX12_empty 75 = .ok (.iastore, 1) := by decide +kernel
theorem dX12_empty_76 : decode cX12_empty 76 = .ok (.iload_n 3, 1) := by decide +kernel
theorem dX12_empty_77 : decode cX12_empty 77 = .ok (.ireturn, 1) := by decide +kernel
theorem dX12_at_0 : decode cX12_at 0 = .ok (.sipush 4801, 3) := by decide +kernel
theorem dX12_at_3 : decode cX12_at 3 = .ok (.iload_n 1, 1) := by decide +kernel
theorem dX12_at_4 : decode cX12_at 4 = .ok (.imul, 1) := by decide +kernel
theorem dX12_at_5 : decode cX12_at 5 = .ok (.iload_n 2, 1) := by decide +kernel
theorem dX12_at_6 : decode cX12_at 6 = .ok (.iadd, 1) := by decide +kernel
theorem dX12_at_7 : decode cX12_at 7 = .ok (.ireturn, 1) := by decide +kernel
set_option maxRecDepth 20000 in
theorem ggX12_layChange_X12_at : GoodIn wsX12_layChange wsX12_at := goodIn_r _ [12] (by decide +kernel) (by decide +kernel)
set_option maxRecDepth 20000 in
theorem gX12_layChange_X12_at : GoodIn wsX12_layChange (wsV RX12 302 RX12 yX12_at wsX12_at) := goodIn_app (goodIn_of _ (by decide +kernel)) ggX12_layChange_X12_at
set_option maxRecDepth 20000 in
theorem ggX12_layChange_X12_valueOf : GoodIn wsX12_layChange wsX12_valueOf := goodIn_r _ [16, 17, 18, 19, 11, 20, 21, 22, 23, 24, 25, 26, 27, 28, 29, 30, 31, 32, 33, 34, 35, 36, 37, 38, 39, 40, 41, 42, 43, 44, 45, 46, 47, 48, 49, 50, 51, 52, 53, 54, 55, 56, 57, 58, 59, 60, 61, 62, 63, 64, 65, 66, 67, 68, 69, 70, 71] (by decide +kernel) (by decide +kernel)
set_option maxRecDepth 20000 in
theorem gX12_layChange_X12_valueOf : GoodIn wsX12_layChange (wsV RX12 264 RX12 yX12_valueOf wsX12_valueOf) := goodIn_app (goodIn_of _ (by decide +kernel)) ggX12_layChange_X12_valueOf
theorem dX12_layChange_0 : decode cX12_layChange 0 = .ok (.iconst 0, 1) := by decide +kernel
theorem dX12_layChange_1 : decode cX12_layChange 1 = .ok (.istore_n 2, 1) := by decide +kernel
theorem dX12_layChange_2 : decode cX12_layChange 2 = .ok (.iload_n 2, 1) := by decide +kernel
theorem dX12_layChange_3 : decode cX12_layChange 3 = .ok (.iload_n 1, 1) := by decide +kernel
theorem dX12_layChange_4 : decode cX12_layChange 4 = .ok (.if_icmp .gt 32, 3) := by decide +kernel
theorem dX12_layChange_7 : decode cX12_layChange 7 = .ok (.aload_n 0, 1) := by decide +kernel
theorem dX12_layChange_8 : decode cX12_layChange 8 = .ok (.getfield 41, 3) := by decide +kernel
theorem dX12_layChange_11 : decode cX12_layChange 11 = .ok (.aload_n 0, 1) := by decide +kernel
theorem dX12_layChange_12 : decode cX12_layChange 12 = .ok (.bipush 8, 2) := by decide +kernel
theorem dX12_layChange_14 : decode cX12_layChange 14 = .ok (.iload_n 2, 1) := by decide +kernel
theorem dX12_layChange_15 : decode cX12_layChange 15 = .ok (.invokevirtual 302, 3) := by decide +kernel
theorem dX12_layChange_18 : decode cX12_layChange 18 = .ok (.iload_n 2, 1) := by decide +kernel
theorem dX12_layChange_19 : decode cX12_layChange 19 = .ok (.ifCond .ne 7, 3) := by decide +kernel
theorem dX12_layChange_22 : decode cX12_layChange 22 = .ok (.iconst 0, 1) := by decide +kernel
theorem dX12_layChange_23 : decode cX12_layChange 23 = .ok (.goto 6, 3) := by decide +kernel
theorem dX12_layChange_26 : decode cX12_layChange 26 = .ok (.ldc_w 304, 3) := by decide +kernel
theorem dX12_layChange_29 : decode cX12_layChange 29 = .ok (.iastore, 1) := by decide +kernel
theorem dX12_layChange_30 : decode cX12_layChange 30 = .ok (.iinc 2 1, 3) := by decide +kernel
theorem dX12_layChange_33 : decode cX12_layChange 33 = .ok (.goto (-31), 3) := by decide +kernel
theorem dX12_layChange_36 : decode cX12_layChange 36 = .ok (.bipush 7, 2) := by decide +kernel
theorem dX12_layChange_38 : decode cX12_layChange 38 = .ok (.istore_n 2, 1) := by decide +kernel
theorem dX12_layChange_39 : decode cX12_layChange 39 = .ok (.iload_n 2, 1) := by decide +kernel
theorem dX12_layChange_40 : decode cX12_layChange 40 = .ok (.ifCond .lt 122, 3) := by decide +kernel
theorem dX12_layChange_43 : decode cX12_layChange 43 = .ok (.aload_n 0, 1) := by decide +kernel
theorem dX12_layChange_44 : decode cX12_layChange 44 = .ok (.iload_n 2, 1) := by decide +kernel
theorem dX12_layChange_45 : decode cX12_layChange 45 = .ok (.invokevirtual 264, 3) := by decide +kernel
theorem dX12_layChange_48 : decode cX12_layChange 48 = .ok (.istore_n 3, 1) := by decide +kernel
theorem dX12_layChange_49 : decode cX12_layChange 49 = .ok (.iconst 0, 1) := by decide +kernel
theorem dX12_layChange_50 : decode cX12_layChange 50 = .ok (.istore 4, 2) := by decide +kernel
theorem dX12_layChange_52 : decode cX12_layChange 52 = .ok (.iload 4, 2) := by decide +kernel
theorem dX12_layChange_54 : decode cX12_layChange 54 = .ok (.iload_n 1, 1) := by decide +kernel
theorem dX12_layChange_55 : decode cX12_layChange 55 = .ok (.if_icmp .gt 101, 3) := by decide +kernel
theorem dX12_layChange_58 : decode cX12_layChange 58 = .ok (.aload_n 0, 1) := by decide +kernel
theorem dX12_layChange_59 : decode cX12_layChange 59 = .ok (.getfield 41, 3) := by decide +kernel
theorem dX12_layChange_62 : decode cX12_layChange 62 = .ok (.aload_n 0, 1) := by decide +kernel
theorem dX12_layChange_63 : decode cX12_layChange 63 = .ok (.iload_n 2, 1) := by decide +kernel
theorem dX12_layChange_64 : decode cX12_layChange 64 = .ok (.iconst 1, 1) := by decide +kernel
theorem dX12_layChange_65 : decode cX12_layChange 65 = .ok (.iadd, 1) := by decide +kernel
theorem dX12_layChange_66 : decode cX12_layChange 66 = .ok (.iload 4, 2) := by decide +kernel
theorem dX12_layChange_68 : decode cX12_layChange 68 = .ok (.invokevirtual 302, 3) := by decide +kernel
theorem dX12_layChange_71 : decode cX12_layChange 71 = .ok (.iaload, 1) := by decide +kernel
theorem dX12_layChange_72 : decode cX12_layChange 72 = .ok (.istore 5, 2) := by decide +kernel
theorem dX12_layChange_74 : decode cX12_layChange 74 = .ok (.iconst 1, 1) := by decide +kernel
theorem dX12_layChange_75 : decode cX12_layChange 75 = .ok (.istore 6, 2) := by decide +kernel
theorem dX12_layChange_77 : decode cX12_layChange 77 = .ok (.iload_n 3, 1) := by decide +kernel
theorem dX12_layChange_78 : decode cX12_layChange 78 = .ok (.ifCond .le 58, 3) := by decide +kernel
theorem dX12_layChange_81 : decode cX12_layChange 81 = .ok (.iload 6, 2) := by decide +kernel
theorem dX12_layChange_83 : decode cX12_layChange 83 = .ok (.aload_n 0, 1) := by decide +kernel
theorem dX12_layChange_84 : decode cX12_layChange 84 = .ok (.getfield 44, 3) := by decide +kernel
theorem dX12_layChange_87 : decode cX12_layChange 87 = .ok (.iload_n 2, 1) := by decide +kernel
theorem dX12_layChange_88 : decode cX12_layChange 88 = .ok (.iaload, 1) := by decide +kernel
theorem dX12_layChange_89 : decode cX12_layChange 89 = .ok (.if_icmp .gt 47, 3) := by decide +kernel
theorem dX12_layChange_92 : decode cX12_layChange 92 = .ok (.iload 6, 2) := by decide +kernel
theorem dX12_layChange_94 : decode cX12_layChange 94 = .ok (.iload_n 3, 1) := by decide +kernel
theorem dX12_layChange_95 : decode cX12_layChange 95 = .ok (.imul, 1) := by decide +kernel
theorem dX12_layChange_96 : decode cX12_layChange 96 = .ok (.iload 4, 2) := by decide +kernel
theorem dX12_layChange_98 : decode cX12_layChange 98 = .ok (.if_icmp .gt 38, 3) := by decide +kernel
theorem dX12_layChange_101 : decode cX12_layChange 101 = .ok (.iload 5, 2) := by decide +kernel
theorem dX12_layChange_103 : decode cX12_layChange 103 = .ok (.iload 6, 2) := by decide +kernel
theorem dX12_layChange_105 : decode cX12_layChange 105 = .ok (.aload_n 0, 1) := by decide +kernel
theorem dX12_layChange_106 : decode cX12_layChange 106 = .ok (.getfield 41, 3) := by decide +kernel
theorem dX12_layChange_109 : decode cX12_layChange 109 = .ok (.aload_n 0, 1) := by decide +kernel
theorem dX12_layChange_110 : decode cX12_layChange 110 = .ok (.iload_n 2, 1) := by decide +kernel
theorem dX12_layChange_111 : decode cX12_layChange 111 = .ok (.iconst 1, 1) := by decide +kernel
theorem dX12_layChange_112 : decode cX12_layChange 112 = .ok (.iadd, 1) := by decide +kernel
theorem dX12_layChange_113 : decode cX12_layChange 113 = .ok (.iload 4, 2) := by decide +kernel
theorem dX12_layChange_115 : decode cX12_layChange 115 = .ok (.iload 6, 2) := by decide +kernel
theorem dX12_layChange_117 : decode cX12_layChange 117 = .ok (.iload_n 3, 1) := by decide +kernel
theorem dX12_layChange_118 : decode cX12_layChange 118 = .ok (.imul, 1) := by decide +kernel
theorem dX12_layChange_119 : decode cX12_layChange 119 = .ok (.isub, 1) := by decide +kernel
theorem dX12_layChange_120 : decode cX12_layChange 120 = .ok (.invokevirtual 302, 3) := by decide +kernel
theorem dX12_layChange_123 : decode cX12_layChange 123 = .ok (.iaload, 1) := by decide +kernel
theorem dX12_layChange_124 : decode cX12_layChange 124 = .ok (.iadd, 1) := by decide +kernel
theorem dX12_layChange_125 : decode cX12_layChange 125 = .ok (.invokestatic 228, 3) := by decide +kernel
theorem dX12_layChange_128 : decode cX12_layChange 128 = .ok (.istore 5, 2) := by decide +kernel
theorem dX12_layChange_130 : decode cX12_layChange 130 = .ok (.iinc 6 1, 3) := by decide +kernel
theorem dX12_layChange_133 : decode cX12_layChange 133 = .ok (.goto (-56), 3) := by decide +kernel
theorem dX12_layChange_136 : decode cX12_layChange 136 = .ok (.aload_n 0, 1) := by decide +kernel
theorem dX12_layChange_137 : decode cX12_layChange 137 = .ok (.getfield 41, 3) := by decide +kernel
theorem dX12_layChange_140 : decode cX12_layChange 140 = .ok (.aload_n 0, 1) := by decide +kernel
theorem dX12_layChange_141 : decode cX12_layChange 141 = .ok (.iload_n 2, 1) := by decide +kernel
theorem dX12_layChange_142 : decode cX12_layChange 142 = .ok (.iload 4, 2) := by decide +kernel
theorem dX12_layChange_144 : decode cX12_layChange 144 = .ok (.invokevirtual 302, 3) := by decide +kernel
theorem dX12_layChange_147 : decode cX12_layChange 147 = .ok (.iload 5, 2) := by decide +kernel
theorem dX12_layChange_149 : decode cX12_layChange 149 = .ok (.iastore, 1) := by decide +kernel
theorem dX12_layChange_150 : decode cX12_layChange 150 = .ok (.iinc 4 1, 3) := by decide +kernel
theorem dX12_layChange_153 : decode cX12_layChange 153 = .ok (.goto (-101), 3) := by decide +kernel
theorem dX12_layChange_156 : decode cX12_layChange 156 = .ok (.iinc 2 (-1), 3) := by decide +kernel
theorem dX12_layChange_159 : decode cX12_layChange 159 = .ok (.goto (-120), 3) := by decide +kernel
theorem dX12_layChange_162 : decode cX12_layChange 162 = .ok (.return_, 1) := by decide +kernel
set_option maxRecDepth 20000 in
theorem ggX12_haveTubes_X12_tubeAt : GoodIn wsX12_haveTubes wsX12_tubeAt := goodIn_r _ [7] (by decide +kernel) (by decide +kernel)
set_option maxRecDepth 20000 in
theorem gX12_haveTubes_X12_tubeAt : GoodIn wsX12_haveTubes (wsV RX12 293 RX12 yX12_tubeAt wsX12_tubeAt) := goodIn_app (goodIn_of _ (by decide +kernel)) ggX12_haveTubes_X12_tubeAt
theorem dX12_haveTubes_0 : decode cX12_haveTubes 0 = .ok (.iconst 0, 1) := by decide +kernel
theorem dX12_haveTubes_1 : decode cX12_haveTubes 1 = .ok (.istore_n 1, 1) := by decide +kernel
theorem dX12_haveTubes_2 : decode cX12_haveTubes 2 = .ok (.iload_n 1, 1) := by decide +kernel
theorem dX12_haveTubes_3 : decode cX12_haveTubes 3 = .ok (.bipush 8, 2) := by decide +kernel
theorem dX12_haveTubes_5 : decode cX12_haveTubes 5 = .ok (.if_icmp .ge 39, 3) := by decide +kernel
theorem dX12_haveTubes_8 : decode cX12_haveTubes 8 = .ok (.aload_n 0, 1) := by decide +kernel
theorem dX12_haveTubes_9 : decode cX12_haveTubes 9 = .ok (.getfield 44, 3) := by decide +kernel
theorem dX12_haveTubes_12 : decode cX12_haveTubes 12 = .ok (.iload_n 1, 1) := by decide +kernel
theorem dX12_haveTubes_13 : decode cX12_haveTubes 13 = .ok (.iload_n 1, 1) := by decide +kernel
theorem dX12_haveTubes_14 : decode cX12_haveTubes 14 = .ok (.aload_n 0, 1) := by decide +kernel
theorem dX12_haveTubes_15 : decode cX12_haveTubes 15 = .ok (.getfield 9, 3) := by decide +kernel
theorem dX12_haveTubes_18 : decode cX12_haveTubes 18 = .ok (.iconst 0, 1) := by decide +kernel
theorem dX12_haveTubes_19 : decode cX12_haveTubes 19 = .ok (.iaload, 1) := by decide +kernel
theorem dX12_haveTubes_20 : decode cX12_haveTubes 20 = .ok (.if_icmp .ge 16, 3) := by decide +kernel
theorem dX12_haveTubes_23 : decode cX12_haveTubes 23 = .ok (.aload_n 0, 1) := by decide +kernel
theorem dX12_haveTubes_24 : decode cX12_haveTubes 24 = .ok (.getfield 9, 3) := by decide +kernel
theorem dX12_haveTubes_27 : decode cX12_haveTubes 27 = .ok (.aload_n 0, 1) := by decide +kernel
theorem dX12_haveTubes_28 : decode cX12_haveTubes 28 = .ok (.iload_n 1, 1) := by decide +kernel
theorem dX12_haveTubes_29 : decode cX12_haveTubes 29 = .ok (.invokevirtual 293, 3) := by decide +kernel
theorem dX12_haveTubes_32 : decode cX12_haveTubes 32 = .ok (.iaload, 1) := by decide +kernel
theorem dX12_haveTubes_33 : decode cX12_haveTubes 33 = .ok (.goto 4, 3) := by decide +kernel
theorem dX12_haveTubes_36 : decode cX12_haveTubes 36 = .ok (.iconst 0, 1) := by decide +kernel
theorem dX12_haveTubes_37 : decode cX12_haveTubes 37 = .ok (.iastore, 1) := by decide +kernel
theorem dX12_haveTubes_38 : decode cX12_haveTubes 38 = .ok (.iinc 1 1, 3) := by decide +kernel
theorem dX12_haveTubes_41 : decode cX12_haveTubes 41 = .ok (.goto (-39), 3) := by decide +kernel
theorem dX12_haveTubes_44 : decode cX12_haveTubes 44 = .ok (.return_, 1) := by decide +kernel
set_option maxRecDepth 20000 in
theorem ggX12_changes_X12_layChange : GoodIn wsX12_changes wsX12_layChange := goodIn_r _ [13, 1, 2, 3, 4, 5, 6, 7, 14, 15, 16, 12, 17, 18, 19, 20, 21, 22, 23, 24, 25, 26, 27, 28, 29, 30, 31, 32, 33, 34, 35, 36, 37, 38, 39, 40, 41, 42, 43, 44, 45, 46, 47, 48, 49, 50, 51, 52, 53, 54, 55, 56, 57, 58, 59, 60, 61, 62, 63, 64, 65, 66, 67, 68, 69, 70, 71, 72, 73, 74, 75, 76] (by decide +kernel) (by decide +kernel)
set_option maxRecDepth 20000 in
theorem gX12_changes_X12_layChange : GoodIn wsX12_changes (wsV RX12 305 RX12 yX12_layChange wsX12_layChange) := goodIn_app (goodIn_of _ (by decide +kernel)) ggX12_changes_X12_layChange
set_option maxRecDepth 20000 in
theorem ggX12_changes_X12_at : GoodIn wsX12_changes wsX12_at := goodIn_r _ [17] (by decide +kernel) (by decide +kernel)
set_option maxRecDepth 20000 in
theorem gX12_changes_X12_at : GoodIn wsX12_changes (wsV RX12 302 RX12 yX12_at wsX12_at) := goodIn_app (goodIn_of _ (by decide +kernel)) ggX12_changes_X12_at
set_option maxRecDepth 20000 in
theorem ggX12_changes_X12_valueOf : GoodIn wsX12_changes wsX12_valueOf := goodIn_r _ [21, 22, 23, 24, 12, 25, 26, 27, 28, 29, 30, 31, 32, 33, 34, 35, 36, 37, 38, 39, 40, 41, 42, 43, 44, 45, 46, 47, 48, 49, 50, 51, 52, 53, 54, 55, 56, 57, 58, 59, 60, 61, 62, 63, 64, 65, 66, 67, 68, 69, 70, 71, 72, 73, 74, 75, 76] (by decide +kernel) (by decide +kernel)
set_option maxRecDepth 20000 in
theorem gX12_changes_X12_valueOf : GoodIn wsX12_changes (wsV RX12 264 RX12 yX12_valueOf wsX12_valueOf) := goodIn_app (goodIn_of _ (by decide +kernel)) ggX12_changes_X12_valueOf
theorem dX12_changes_0 : decode cX12_changes 0 = .ok (.aload_n 0, 1) := by decide +kernel
theorem dX12_changes_1 : decode cX12_changes 1 = .ok (.iload_n 1, 1) := by decide +kernel
theorem dX12_changes_2 : decode cX12_changes 2 = .ok (.invokevirtual 305, 3) := by decide +kernel
theorem dX12_changes_5 : decode cX12_changes 5 = .ok (.aload_n 0, 1) := by decide +kernel
theorem dX12_changes_6 : decode cX12_changes 6 = .ok (.getfield 41, 3) := by decide +kernel
theorem dX12_changes_9 : decode cX12_changes 9 = .ok (.aload_n 0, 1) := by decide +kernel
theorem dX12_changes_10 : decode cX12_changes 10 = .ok (.iconst 0, 1) := by decide +kernel
theorem dX12_changes_11 : decode cX12_changes 11 = .ok (.iload_n 1, 1) := by decide +kernel
theorem dX12_changes_12 : decode cX12_changes 12 = .ok (.invokevirtual 302, 3) := by decide +kernel
theorem dX12_changes_15 : decode cX12_changes 15 = .ok (.iaload, 1) := by decide +kernel
theorem dX12_changes_16 : decode cX12_changes 16 = .ok (.ldc_w 304, 3) := by decide +kernel
theorem dX12_changes_19 : decode cX12_changes 19 = .ok (.if_icmp .lt 5, 3) := by decide +kernel
theorem dX12_changes_22 : decode cX12_changes 22 = .ok (.iconst (-1), 1) := by decide +kernel
theorem dX12_changes_23 : decode cX12_changes 23 = .ok (.ireturn, 1) := by decide +kernel
theorem dX12_changes_24 : decode cX12_changes 24 = .ok (.iload_n 1, 1) := by decide +kernel
theorem dX12_changes_25 : decode cX12_changes 25 = .ok (.istore_n 2, 1) := by decide +kernel
theorem dX12_changes_26 : decode cX12_changes 26 = .ok (.iconst 0, 1) := by decide +kernel
theorem dX12_changes_27 : decode cX12_changes 27 = .ok (.istore_n 3, 1) := by decide +kernel
theorem dX12_changes_28 : decode cX12_changes 28 = .ok (.iload_n 3, 1) := by decide +kernel
theorem dX12_changes_29 : decode cX12_changes 29 = .ok (.bipush 8, 2) := by decide +kernel
theorem dX12_changes_31 : decode cX12_changes 31 = .ok (.if_icmp .ge 98, 3) := by decide +kernel
theorem dX12_changes_34 : decode cX12_changes 34 = .ok (.aload_n 0, 1) := by decide +kernel
theorem dX12_changes_35 : decode cX12_changes 35 = .ok (.iload_n 3, 1) := by decide +kernel
theorem dX12_changes_36 : decode cX12_changes 36 = .ok (.invokevirtual 264, 3) := by decide +kernel
theorem dX12_changes_39 : decode cX12_changes 39 = .ok (.istore 4, 2) := by decide +kernel
theorem dX12_changes_41 : decode cX12_changes 41 = .ok (.iload 4, 2) := by decide +kernel
theorem dX12_changes_43 : decode cX12_changes 43 = .ok (.ifCond .ne 7, 3) := by decide +kernel
theorem dX12_changes_46 : decode cX12_changes 46 = .ok (.iconst 0, 1) := by decide +kernel
theorem dX12_changes_47 : decode cX12_changes 47 = .ok (.goto 16, 3) := by decide +kernel
theorem dX12_changes_50 : decode cX12_changes 50 = .ok (.aload_n 0, 1) := by decide +kernel
theorem dX12_changes_51 : decode cX12_changes 51 = .ok (.getfield 44, 3) := by decide +kernel
theorem dX12_changes_54 : decode cX12_changes 54 = .ok (.iload_n 3, 1) := by decide +kernel
theorem dX12_changes_55 : decode cX12_changes 55 = .ok (.iaload, 1) := by decide +kernel
theorem dX12_changes_56 : decode cX12_changes 56 = .ok (.iload_n 2, 1) := by decide +kernel
theorem dX12_changes_57 : decode cX12_changes 57 = .ok (.iload 4, 2) := by decide +kernel
theorem dX12_changes_59 : decode cX12_changes 59 = .ok (.idiv, 1) := by decide +kernel
theorem dX12_changes_60 : decode cX12_changes 60 = .ok (.invokestatic 228, 3) := by decide +kernel
theorem dX12_changes_63 : decode cX12_changes 63 = .ok (.istore 5, 2) := by decide +kernel
theorem dX12_changes_65 : decode cX12_changes 65 = .ok (.iload 5, 2) := by decide +kernel
theorem dX12_changes_67 : decode cX12_changes 67 = .ok (.aload_n 0, 1) := by decide +kernel
theorem dX12_changes_68 : decode cX12_changes 68 = .ok (.getfield 41, 3) := by decide +kernel
theorem dX12_changes_71 : decode cX12_changes 71 = .ok (.aload_n 0, 1) := by decide +kernel
theorem dX12_changes_72 : decode cX12_changes 72 = .ok (.iload_n 3, 1) := by decide +kernel
theorem dX12_changes_73 : decode cX12_changes 73 = .ok (.iconst 1, 1) := by decide +kernel
theorem dX12_changes_74 : decode cX12_changes 74 = .ok (.iadd, 1) := by decide +kernel
theorem dX12_changes_75 : decode cX12_changes 75 = .ok (.iload_n 2, 1) := by decide +kernel
theorem dX12_changes_76 : decode cX12_changes 76 = .ok (.iload 5, 2) := by decide +kernel
theorem dX12_changes_78 : decode cX12_changes 78 = .ok (.iload 4, 2) := by decide +kernel
theorem dX12_changes_80 : decode cX12_changes 80 = .ok (.imul, 1) := by decide +kernel
theorem dX12_changes_81 : decode cX12_changes 81 = .ok (.isub, 1) := by decide +kernel
theorem dX12_changes_82 : decode cX12_changes 82 = .ok (.invokevirtual 302, 3) := by decide +kernel
theorem dX12_changes_85 : decode cX12_changes 85 = .ok (.iaload, 1) := by decide +kernel
theorem dX12_changes_86 : decode cX12_changes 86 = .ok (.iadd, 1) := by decide +kernel
theorem dX12_changes_87 : decode cX12_changes 87 = .ok (.aload_n 0, 1) := by decide +kernel
theorem dX12_changes_88 : decode cX12_changes 88 = .ok (.getfield 41, 3) := by decide +kernel
theorem dX12_changes_91 : decode cX12_changes 91 = .ok (.aload_n 0, 1) := by decide +kernel
theorem dX12_changes_92 : decode cX12_changes 92 = .ok (.iload_n 3, 1) := by decide +kernel
theorem dX12_changes_93 : decode cX12_changes 93 = .ok (.iload_n 2, 1) := by decide +kernel
theorem dX12_changes_94 : decode cX12_changes 94 = .ok (.invokevirtual 302, 3) := by decide +kernel
theorem dX12_changes_97 : decode cX12_changes 97 = .ok (.iaload, 1) := by decide +kernel
theorem dX12_changes_98 : decode cX12_changes 98 = .ok (.if_icmp .eq 9, 3) := by decide +kernel
theorem dX12_changes_101 : decode cX12_changes 101 = .ok (.iinc 5 (-1), 3) := by decide +kernel
theorem dX12_changes_104 : decode cX12_changes 104 = .ok (.goto (-39), 3) := by decide +kernel
theorem dX12_changes_107 : decode cX12_changes 107 = .ok (.aload_n 0, 1) := by decide +kernel
theorem dX12_changes_108 : decode cX12_changes 108 = .ok (.getfield 47, 3) := by decide +kernel
theorem dX12_changes_111 : decode cX12_changes 111 = .ok (.iload_n 3, 1) := by decide +kernel
theorem dX12_changes_112 : decode cX12_changes 112 = .ok (.iload 5, 2) := by decide +kernel
theorem dX12_changes_114 : decode cX12_changes 114 = .ok (.iastore, 1) := by decide +kernel
theorem dX12_changes_115 : decode cX12_changes 115 = .ok (.iload_n 2, 1) := by decide +kernel
theorem dX12_changes_116 : decode cX12_changes 116 = .ok (.iload 5, 2) := by decide +kernel
theorem dX12_changes_118 : decode cX12_changes 118 = .ok (.iload 4, 2) := by decide +kernel
theorem dX12_changes_120 : decode cX12_changes 120 = .ok (.imul, 1) := by decide +kernel
theorem dX12_changes_121 : decode cX12_changes 121 = .ok (.isub, 1) := by decide +kernel
theorem dX12_changes_122 : decode cX12_changes 122 = .ok (.istore_n 2, 1) := by decide +kernel
theorem dX12_changes_123 : decode cX12_changes 123 = .ok (.iinc 3 1, 3) := by decide +kernel
theorem dX12_changes_126 : decode cX12_changes 126 = .ok (.goto (-98), 3) := by decide +kernel
theorem dX12_changes_129 : decode cX12_changes 129 = .ok (.aload_n 0, 1) := by decide +kernel
theorem dX12_changes_130 : decode cX12_changes 130 = .ok (.getfield 41, 3) := by decide +kernel
theorem dX12_changes_133 : decode cX12_changes 133 = .ok (.aload_n 0, 1) := by decide +kernel
theorem dX12_changes_134 : decode cX12_changes 134 = .ok (.iconst 0, 1) := by decide +kernel
theorem dX12_changes_135 : decode cX12_changes 135 = .ok (.iload_n 1, 1) := by decide +kernel
theorem dX12_changes_136 : decode cX12_changes 136 = .ok (.invokevirtual 302, 3) := by decide +kernel
theorem dX12_changes_139 : decode cX12_changes 139 = .ok (.iaload, 1) := by decide +kernel
theorem dX12_changes_140 : decode cX12_changes 140 = .ok (.ireturn, 1) := by decide +kernel
theorem dX12_lies_0 : decode cX12_lies 0 = .ok (.aload_n 0, 1) := by decide +kernel
theorem dX12_lies_1 : decode cX12_lies 1 = .ok (.getfield 9, 3) := by decide +kernel
theorem dX12_lies_4 : decode cX12_lies 4 = .ok (.sipush 357, 3) := by decide +kernel
theorem dX12_lies_7 : decode cX12_lies 7 = .ok (.iconst 4, 1) := by decide +kernel
theorem dX12_lies_8 : decode cX12_lies 8 = .ok (.iload_n 1, 1) := by decide +kernel
theorem dX12_lies_9 : decode cX12_lies 9 = .ok (.imul, 1) := by decide +kernel
theorem dX12_lies_10 : decode cX12_lies 10 = .ok (.iadd, 1) := by decide +kernel
theorem dX12_lies_11 : decode cX12_lies 11 = .ok (.iload_n 2, 1) := by decide +kernel
theorem dX12_lies_12 : decode cX12_lies 12 = .ok (.iadd, 1) := by decide +kernel
theorem dX12_lies_13 : decode cX12_lies 13 = .ok (.iaload, 1) := by decide +kernel
theorem dX12_lies_14 : decode cX12_lies 14 = .ok (.ireturn, 1) := by decide +kernel
set_option maxRecDepth 20000 in
theorem ggX12_isCoin_X12_endOf : GoodIn wsX12_isCoin wsX12_endOf := goodIn_r _ [5, 6, 7, 8, 9, 10, 11, 12, 13, 4, 14, 18, 19, 20, 21, 22, 23, 24, 25, 26, 27, 28, 29, 30, 31, 32, 33, 34, 35, 36, 37, 38, 39, 40, 41, 42, 43, 44, 45, 46, 47, 48, 49, 50, 51, 52] (by decide +kernel) (by decide +kernel)
set_option maxRecDepth 20000 in
theorem gX12_isCoin_X12_endOf : GoodIn wsX12_isCoin (wsV RX12 128 RX12 yX12_endOf wsX12_endOf) := goodIn_app (goodIn_of _ (by decide +kernel)) ggX12_isCoin_X12_endOf
set_option maxRecDepth 20000 in
theorem ggX12_isCoin_X12_within : GoodIn wsX12_isCoin wsX12_within := goodIn_r _ [17] (by decide +kernel) (by decide +kernel)
set_option maxRecDepth 20000 in
theorem gX12_isCoin_X12_within : GoodIn wsX12_isCoin (va_wsS RX12 83 yX12_within wsX12_within) := goodIn_app (goodIn_of _ (by decide +kernel)) ggX12_isCoin_X12_within
theorem dX12_isCoin_0 : decode cX12_isCoin 0 = .ok (.iload_n 2, 1) := by decide +kernel
theorem dX12_isCoin_1 : decode cX12_isCoin 1 = .ok (.i2l, 1) := by decide +kernel
theorem dX12_isCoin_2 : decode cX12_isCoin 2 = .ok (.aload_n 0, 1) := by decide +kernel
theorem dX12_isCoin_3 : decode cX12_isCoin 3 = .ok (.iload_n 1, 1) := by decide +kernel
theorem dX12_isCoin_4 : decode cX12_isCoin 4 = .ok (.iconst 0, 1) := by decide +kernel
theorem dX12_isCoin_5 : decode cX12_isCoin 5 = .ok (.iconst 0, 1) := by decide +kernel
theorem dX12_isCoin_6 : decode cX12_isCoin 6 = .ok (.invokevirtual 128, 3) := by decide +kernel
theorem dX12_isCoin_9 : decode cX12_isCoin 9 = .ok (.i2l, 1) := by decide +kernel
theorem dX12_isCoin_10 : decode cX12_isCoin 10 = .ok (.aload_n 0, 1) := by decide +kernel
theorem dX12_isCoin_11 : decode cX12_isCoin 11 = .ok (.iload_n 1, 1) := by decide +kernel
theorem dX12_isCoin_12 : decode cX12_isCoin 12 = .ok (.iconst 0, 1) := by decide +kernel
theorem dX12_isCoin_13 : decode cX12_isCoin 13 = .ok (.iconst 1, 1) := by decide +kernel
theorem dX12_isCoin_14 : decode cX12_isCoin 14 = .ok (.invokevirtual 128, 3) := by decide +kernel
theorem dX12_isCoin_17 : decode cX12_isCoin 17 = .ok (.i2l, 1) := by decide +kernel
theorem dX12_isCoin_18 : decode cX12_isCoin 18 = .ok (.invokestatic 83, 3) := by decide +kernel
theorem dX12_isCoin_21 : decode cX12_isCoin 21 = .ok (.ifCond .eq 56, 3) := by decide +kernel
theorem dX12_isCoin_24 : decode cX12_isCoin 24 = .ok (.iload_n 3, 1) := by decide +kernel
theorem dX12_isCoin_25 : decode cX12_isCoin 25 = .ok (.i2l, 1) := by decide +kernel
theorem dX12_isCoin_26 : decode cX12_isCoin 26 = .ok (.aload_n 0, 1) := by decide +kernel
theorem dX12_isCoin_27 : decode cX12_isCoin 27 = .ok (.iload_n 1, 1) := by decide +kernel
theorem dX12_isCoin_28 : decode cX12_isCoin 28 = .ok (.iconst 1, 1) := by decide +kernel
theorem dX12_isCoin_29 : decode cX12_isCoin 29 = .ok (.iconst 0, 1) := by decide +kernel
theorem dX12_isCoin_30 : decode cX12_isCoin 30 = .ok (.invokevirtual 128, 3) := by decide +kernel
theorem dX12_isCoin_33 : decode cX12_isCoin 33 = .ok (.i2l, 1) := by decide +kernel
theorem dX12_isCoin_34 : decode cX12_isCoin 34 = .ok (.aload_n 0, 1) := by decide +kernel
theorem dX12_isCoin_35 : decode cX12_isCoin 35 = .ok (.iload_n 1, 1) := by decide +kernel
theorem dX12_isCoin_36 : decode cX12_isCoin 36 = .ok (.iconst 1, 1) := by decide +kernel
theorem dX12_isCoin_37 : decode cX12_isCoin 37 = .ok (.iconst 1, 1) := by decide +kernel
theorem dX12_isCoin_38 : decode cX12_isCoin 38 = .ok (.invokevirtual 128, 3) := by decide +kernel
theorem dX12_isCoin_41 : decode cX12_isCoin 41 = .ok (.i2l, 1) := by decide +kernel
theorem dX12_isCoin_42 : decode cX12_isCoin 42 = .ok (.invokestatic 83, 3) := by decide +kernel
theorem dX12_isCoin_45 : decode cX12_isCoin 45 = .ok (.ifCond .eq 32, 3) := by decide +kernel
theorem dX12_isCoin_48 : decode cX12_isCoin 48 = .ok (.iload 4, 2) := by decide +kernel
theorem dX12_isCoin_50 : decode cX12_isCoin 50 = .ok (.i2l, 1) := by decide +kernel
theorem dX12_isCoin_51 : decode cX12_isCoin 51 = .ok (.aload_n 0, 1) := by decide +kernel
theorem dX12_isCoin_52 : decode cX12_isCoin 52 = .ok (.iload_n 1, 1) := by decide +kernel
theorem dX12_isCoin_53 : decode cX12_isCoin 53 = .ok (.iconst 2, 1) := by decide +kernel
theorem dX12_isCoin_54 : decode cX12_isCoin 54 = .ok (.iconst 0, 1) := by decide +kernel
theorem dX12_isCoin_55 : decode cX12_isCoin 55 = .ok (.invokevirtual 128, 3) := by decide +kernel
theorem dX12_isCoin_58 : decode cX12_isCoin 58 = .ok (.i2l, 1) := by decide +kernel
theorem dX12_isCoin_59 : decode cX12_isCoin 59 = .ok (.aload_n 0, 1) := by decide +kernel
theorem dX12_isCoin_60 : decode cX12_isCoin 60 = .ok (.iload_n 1, 1) := by decide +kernel
theorem dX12_isCoin_61 : decode cX12_isCoin 61 = .ok (.iconst 2, 1) := by decide +kernel
theorem dX12_isCoin_62 : decode cX12_isCoin 62 = .ok (.iconst 1, 1) := by decide +kernel
theorem dX12_isCoin_63 : decode cX12_isCoin 63 = .ok (.invokevirtual 128, 3) := by decide +kernel
theorem dX12_isCoin_66 : decode cX12_isCoin 66 = .ok (.i2l, 1) := by decide +kernel
theorem dX12_isCoin_67 : decode cX12_isCoin 67 = .ok (.invokestatic 83, 3) := by decide +kernel
theorem dX12_isCoin_70 : decode cX12_isCoin 70 = .ok (.ifCond .eq 7, 3) := by decide +kernel
theorem dX12_isCoin_73 : decode cX12_isCoin 73 = .ok (.iconst 1, 1) := by decide +kernel
theorem dX12_isCoin_74 : decode cX12_isCoin 74 = .ok (.goto 4, 3) := by decide +kernel
theorem dX12_isCoin_77 : decode cX12_isCoin 77 = .ok (.iconst 0, 1) := by decide +kernel
theorem dX12_isCoin_78 : decode cX12_isCoin 78 = .ok (.ireturn, 1) := by decide +kernel
set_option maxRecDepth 20000 in
theorem ggX12_put_X12_isSort : GoodIn wsX12_put wsX12_isSort := goodIn_r _ [8, 9, 10, 11, 7, 12, 3, 13, 14, 15, 62, 63, 64, 65, 66, 67, 68, 69, 70, 71, 72, 73, 74, 75, 76, 77, 78, 79, 80, 81, 82, 83, 84, 85, 86, 87, 88, 89, 90, 91, 92, 93, 94, 95, 96] (by decide +kernel) (by decide +kernel)
set_option maxRecDepth 20000 in
theorem gX12_put_X12_isSort : GoodIn wsX12_put (wsV RX12 99 RX12 yX12_isSort wsX12_isSort) := goodIn_app (goodIn_of _ (by decide +kernel)) ggX12_put_X12_isSort
set_option maxRecDepth 20000 in
theorem ggX12_put_X12_fails : GoodIn wsX12_put wsX12_fails := goodIn_r _ [19, 1, 62, 63, 64, 65, 66, 67, 68, 69, 70, 71, 72, 73, 74, 75, 76, 77, 78, 79, 80, 81, 82, 83, 84, 85, 86, 87, 88, 89, 90, 91, 92, 93, 94, 95, 96] (by decide +kernel) (by decide +kernel)
set_option maxRecDepth 20000 in
theorem gX12_put_X12_fails : GoodIn wsX12_put (wsV RX12 95 RX12 yX12_fails wsX12_fails) := goodIn_app (goodIn_of _ (by decide +kernel)) ggX12_put_X12_fails
set_option maxRecDepth 20000 in
theorem ggX12_put_X12_within : GoodIn wsX12_put wsX12_within := goodIn_r _ [15] (by decide +kernel) (by decide +kernel)
set_option maxRecDepth 20000 in
theorem gX12_put_X12_within : GoodIn wsX12_put (va_wsS RX12 83 yX12_within wsX12_within) := goodIn_app (goodIn_of _ (by decide +kernel)) ggX12_put_X12_within
set_option maxRecDepth 20000 in
theorem ggX12_put_X12_isCoin : GoodIn wsX12_put wsX12_isCoin := goodIn_r _ [23, 24, 25, 26, 7, 27, 3, 28, 29, 30, 31, 32, 33, 34, 35, 13, 14, 15, 62, 63, 64, 65, 66, 67, 68, 69, 70, 71, 72, 73, 74, 75, 76, 77, 78, 79, 80, 81, 82, 83, 84, 85, 86, 87, 88, 89, 90, 91, 92, 93, 94, 95, 96] (by decide +kernel) (by decide +kernel)
set_option maxRecDepth 20000 in
theorem gX12_put_X12_isCoin : GoodIn wsX12_put (wsV RX12 308 RX12 yX12_isCoin wsX12_isCoin) := goodIn_app (goodIn_of _ (by decide +kernel)) ggX12_put_X12_isCoin
set_option maxRecDepth 20000 in
theorem ggX12_put_X12_takenOf : GoodIn wsX12_put wsX12_takenOf := goodIn_r _ [39, 3, 40, 41, 42, 7, 43, 44, 45, 30, 46, 28, 29, 31, 47, 48, 49, 50, 51, 52, 53, 54, 55, 56, 57, 13, 14, 15, 58, 59, 60, 61, 4, 5, 6, 8, 9, 10, 11, 12, 32, 33, 34, 35, 62, 63, 64, 65, 66, 67, 68, 69, 70, 71, 72, 73, 74, 75, 76, 77, 78, 79, 80, 81, 82, 83, 84, 85, 86, 87, 88, 89, 90, 91, 92, 93, 94, 95, 96] (by decide +kernel) (by decide +kernel)
set_option maxRecDepth 20000 in
theorem gX12_put_X12_takenOf : GoodIn wsX12_put (wsV RX12 258 RX12 yX12_takenOf wsX12_takenOf) := goodIn_app (goodIn_of _ (by decide +kernel)) ggX12_put_X12_takenOf
set_option maxRecDepth 20000 in
theorem ggX12_put_X12_of : GoodIn wsX12_put wsX12_of := goodIn_r _ [35, 3, 62, 63, 64, 65, 66, 67, 68, 69, 70, 71, 72, 73, 74, 75, 76, 77, 78, 79, 80, 81, 82, 83, 84, 85, 86, 87, 88, 89, 90, 91, 92, 93, 94, 95, 96] (by decide +kernel) (by decide +kernel)
set_option maxRecDepth 20000 in
theorem gX12_put_X12_of : GoodIn wsX12_put (wsV RX12 117 RX12 yX12_of wsX12_of) := goodIn_app (goodIn_of _ (by decide +kernel)) ggX12_put_X12_of
theorem dX12_put_0 : decode cX12_put 0 = .ok (.aload_n 0, 1) := by decide +kernel
theorem dX12_put_1 : decode cX12_put 1 = .ok (.iconst 0, 1) := by decide +kernel
theorem dX12_put_2 : decode cX12_put 2 = .ok (.putfield 80, 3) := by decide +kernel
theorem dX12_put_5 : decode cX12_put 5 = .ok (.aload_n 0, 1) := by decide +kernel
theorem dX12_put_6 : decode cX12_put 6 = .ok (.iload_n 1, 1) := by decide +kernel
theorem dX12_put_7 : decode cX12_put 7 = .ok (.invokevirtual 99, 3) := by decide +kernel
theorem dX12_put_10 : decode cX12_put 10 = .ok (.ifCond .ne 9, 3) := by decide +kernel
theorem dX12_put_13 : decode cX12_put 13 = .ok (.aload_n 0, 1) := by decide +kernel
theorem dX12_put_14 : decode cX12_put 14 = .ok (.iconst 1, 1) := by decide +kernel
theorem dX12_put_15 : decode cX12_put 15 = .ok (.invokevirtual 95, 3) := by decide +kernel
theorem dX12_put_18 : decode cX12_put 18 = .ok (.ireturn, 1) := by decide +kernel
theorem dX12_put_19 : decode cX12_put 19 = .ok (.iload 5, 2) := by decide +kernel
theorem dX12_put_21 : decode cX12_put 21 = .ok (.i2l, 1) := by decide +kernel
theorem dX12_put_22 : decode cX12_put 22 = .ok (.lconst 0, 1) := by decide +kernel
theorem dX12_put_23 : decode cX12_put 23 = .ok (.ldc2_w 115, 3) := by decide +kernel
theorem dX12_put_26 : decode cX12_put 26 = .ok (.invokestatic 83, 3) := by decide +kernel
theorem dX12_put_29 : decode cX12_put 29 = .ok (.ifCond .eq 15, 3) := by decide +kernel
theorem dX12_put_32 : decode cX12_put 32 = .ok (.aload_n 0, 1) := by decide +kernel
theorem dX12_put_33 : decode cX12_put 33 = .ok (.iload_n 1, 1) := by decide +kernel
theorem dX12_put_34 : decode cX12_put 34 = .ok (.iload_n 2, 1) := by decide +kernel
theorem dX12_put_35 : decode cX12_put 35 = .ok (.iload_n 3, 1) := by decide +kernel
theorem dX12_put_36 : decode cX12_put 36 = .ok (.iload 4, 2) := by decide +kernel
theorem dX12_put_38 : decode cX12_put 38 = .ok (.invokevirtual 308, 3) := by decide +kernel
theorem dX12_put_41 : decode cX12_put 41 = .ok (.ifCond .ne 9, 3) := by decide +kernel
theorem dX12_put_44 : decode cX12_put 44 = .ok (.aload_n 0, 1) := by decide +kernel
theorem dX12_put_45 : decode cX12_put 45 = .ok (.iconst 2, 1) := by decide +kernel
theorem dX12_put_46 : decode cX12_put 46 = .ok (.invokevirtual 95, 3) := by decide +kernel
theorem dX12_put_49 : decode cX12_put 49 = .ok (.ireturn, 1) := by decide +kernel
theorem dX12_put_50 : decode cX12_put 50 = .ok (.iload 5, 2) := by decide +kernel
theorem dX12_put_52 : decode cX12_put 52 = .ok (.iconst 3, 1) := by decide +kernel
theorem dX12_put_53 : decode cX12_put 53 = .ok (.if_icmp .ne 19, 3) := by decide +kernel
theorem dX12_put_56 : decode cX12_put 56 = .ok (.aload_n 0, 1) := by decide +kernel
theorem dX12_put_57 : decode cX12_put 57 = .ok (.getfield 9, 3) := by decide +kernel
theorem dX12_put_60 : decode cX12_put 60 = .ok (.sipush 327, 3) := by decide +kernel
theorem dX12_put_63 : decode cX12_put 63 = .ok (.iload_n 1, 1) := by decide +kernel
theorem dX12_put_64 : decode cX12_put 64 = .ok (.iadd, 1) := by decide +kernel
theorem dX12_put_65 : decode cX12_put 65 = .ok (.dup2, 1) := by decide +kernel
theorem dX12_put_66 : decode cX12_put 66 = .ok (.iaload, 1) := by decide +kernel
theorem dX12_put_67 : decode cX12_put 67 = .ok (.iconst 1, 1) := by decide +kernel
theorem dX12_put_68 : decode cX12_put 68 = .ok (.iadd, 1) := by decide +kernel
theorem dX12_put_69 : decode cX12_put 69 = .ok (.iastore, 1) := by decide +kernel
theorem dX12_put_70 : decode cX12_put 70 = .ok (.iload_n 1, 1) := by decide +kernel
theorem dX12_put_71 : decode cX12_put 71 = .ok (.ireturn, 1) := by decide +kernel
theorem dX12_put_72 : decode cX12_put 72 = .ok (.aload_n 0, 1) := by decide +kernel
theorem dX12_put_73 : decode cX12_put 73 = .ok (.iload_n 2, 1) := by decide +kernel
theorem dX12_put_74 : decode cX12_put 74 = .ok (.iload_n 3, 1) := by decide +kernel
theorem dX12_put_75 : decode cX12_put 75 = .ok (.iload 4, 2) := by decide +kernel
theorem dX12_put_77 : decode cX12_put 77 = .ok (.invokevirtual 258, 3) := by decide +kernel
theorem dX12_put_80 : decode cX12_put 80 = .ok (.istore 6, 2) := by decide +kernel
theorem dX12_put_82 : decode cX12_put 82 = .ok (.iload 6, 2) := by decide +kernel
theorem dX12_put_84 : decode cX12_put 84 = .ok (.iconst (-1), 1) := by decide +kernel
theorem dX12_put_85 : decode cX12_put 85 = .ok (.if_icmp .eq 14, 3) := by decide +kernel
theorem dX12_put_88 : decode cX12_put 88 = .ok (.aload_n 0, 1) := by decide +kernel
theorem dX12_put_89 : decode cX12_put 89 = .ok (.getfield 9, 3) := by decide +kernel
theorem dX12_put_92 : decode cX12_put 92 = .ok (.iconst 3, 1) := by decide +kernel
theorem dX12_put_93 : decode cX12_put 93 = .ok (.iaload, 1) := by decide +kernel
theorem dX12_put_94 : decode cX12_put 94 = .ok (.bipush 12, 2) := by decide +kernel
theorem dX12_put_96 : decode cX12_put 96 = .ok (.if_icmp .ne 5, 3) := by decide +kernel
theorem dX12_put_99 : decode cX12_put 99 = .ok (.iconst (-1), 1) := by decide +kernel
theorem dX12_put_100 : decode cX12_put 100 = .ok (.ireturn, 1) := by decide +kernel
theorem dX12_put_101 : decode cX12_put 101 = .ok (.sipush 357, 3) := by decide +kernel
theorem dX12_put_104 : decode cX12_put 104 = .ok (.iconst 4, 1) := by decide +kernel
theorem dX12_put_105 : decode cX12_put 105 = .ok (.aload_n 0, 1) := by decide +kernel
theorem dX12_put_106 : decode cX12_put 106 = .ok (.getfield 9, 3) := by decide +kernel
theorem dX12_put_109 : decode cX12_put 109 = .ok (.iconst 3, 1) := by decide +kernel
theorem dX12_put_110 : decode cX12_put 110 = .ok (.iaload, 1) := by decide +kernel
theorem dX12_put_111 : decode cX12_put 111 = .ok (.imul, 1) := by decide +kernel
theorem dX12_put_112 : decode cX12_put 112 = .ok (.iadd, 1) := by decide +kernel
theorem dX12_put_113 : decode cX12_put 113 = .ok (.istore 7, 2) := by decide +kernel
theorem dX12_put_115 : decode cX12_put 115 = .ok (.aload_n 0, 1) := by decide +kernel
theorem dX12_put_116 : decode cX12_put 116 = .ok (.getfield 9, 3) := by decide +kernel
theorem dX12_put_119 : decode cX12_put 119 = .ok (.iload 7, 2) := by decide +kernel
theorem dX12_put_121 : decode cX12_put 121 = .ok (.iload 6, 2) := by decide +kernel
theorem dX12_put_123 : decode cX12_put 123 = .ok (.iastore, 1) := by decide +kernel
theorem dX12_put_124 : decode cX12_put 124 = .ok (.aload_n 0, 1) := by decide +kernel
theorem dX12_put_125 : decode cX12_put 125 = .ok (.getfield 9, 3) := by decide +kernel
theorem dX12_put_128 : decode cX12_put 128 = .ok (.iload 7, 2) := by decide +kernel
theorem dX12_put_130 : decode cX12_put 130 = .ok (.iconst 1, 1) := by decide +kernel
theorem dX12_put_131 : decode cX12_put 131 = .ok (.iadd, 1) := by decide +kernel
theorem dX12_put_132 : decode cX12_put 132 = .ok (.iload 5, 2) := by decide +kernel
theorem dX12_put_134 : decode cX12_put 134 = .ok (.iconst 2, 1) := by decide +kernel
theorem dX12_put_135 : decode cX12_put 135 = .ok (.if_icmp .ne 7, 3) := by decide +kernel
theorem dX12_put_138 : decode cX12_put 138 = .ok (.iconst (-1), 1) := by decide +kernel
theorem dX12_put_139 : decode cX12_put 139 = .ok (.goto 4, 3) := by decide +kernel
theorem dX12_put_142 : decode cX12_put 142 = .ok (.iload_n 1, 1) := by decide +kernel
theorem dX12_put_143 : decode cX12_put 143 = .ok (.iastore, 1) := by decide +kernel
theorem dX12_put_144 : decode cX12_put 144 = .ok (.aload_n 0, 1) := by decide +kernel
theorem dX12_put_145 : decode cX12_put 145 = .ok (.getfield 9, 3) := by decide +kernel
theorem dX12_put_148 : decode cX12_put 148 = .ok (.iload 7, 2) := by decide +kernel
theorem dX12_put_150 : decode cX12_put 150 = .ok (.iconst 2, 1) := by decide +kernel
theorem dX12_put_151 : decode cX12_put 151 = .ok (.iadd, 1) := by decide +kernel
theorem dX12_put_152 : decode cX12_put 152 = .ok (.iload 5, 2) := by decide +kernel
theorem dX12_put_154 : decode cX12_put 154 = .ok (.iconst 1, 1) := by decide +kernel
theorem dX12_put_155 : decode cX12_put 155 = .ok (.if_icmp .ne 15, 3) := by decide +kernel
theorem dX12_put_158 : decode cX12_put 158 = .ok (.iconst 2, 1) := by decide +kernel
theorem dX12_put_159 : decode cX12_put 159 = .ok (.aload_n 0, 1) := by decide +kernel
theorem dX12_put_160 : decode cX12_put 160 = .ok (.iload 6, 2) := by decide +kernel
theorem dX12_put_162 : decode cX12_put 162 = .ok (.iconst 0, 1) := by decide +kernel
theorem dX12_put_163 : decode cX12_put 163 = .ok (.invokevirtual 117, 3) := by decide +kernel
theorem dX12_put_166 : decode cX12_put 166 = .ok (.imul, 1) := by decide +kernel
theorem dX12_put_167 : decode cX12_put 167 = .ok (.goto 10, 3) := by decide +kernel
theorem dX12_put_170 : decode cX12_put 170 = .ok (.aload_n 0, 1) := by decide +kernel
theorem dX12_put_171 : decode cX12_put 171 = .ok (.iload 6, 2) := by decide +kernel
theorem dX12_put_173 : decode cX12_put 173 = .ok (.iconst 0, 1) := by decide +kernel
theorem dX12_put_174 : decode cX12_put 174 = .ok (.invokevirtual 117, 3) := by decide +kernel
theorem dX12_put_177 : decode cX12_put 177 = .ok (.iastore, 1) := by decide +kernel
theorem dX12_put_178 : decode cX12_put 178 = .ok (.aload_n 0, 1) := by decide +kernel
theorem dX12_put_179 : decode cX12_put 179 = .ok (.getfield 9, 3) := by decide +kernel
theorem dX12_put_182 : decode cX12_put 182 = .ok (.iload 7, 2) := by decide +kernel
theorem dX12_put_184 : decode cX12_put 184 = .ok (.iconst 3, 1) := by decide +kernel
theorem dX12_put_185 : decode cX12_put 185 = .ok (.iadd, 1) := by decide +kernel
theorem dX12_put_186 : decode cX12_put 186 = .ok (.iload 5, 2) := by decide +kernel
theorem dX12_put_188 : decode cX12_put 188 = .ok (.iconst 1, 1) := by decide +kernel
theorem dX12_put_189 : decode cX12_put 189 = .ok (.if_icmp .ne 7, 3) := by decide +kernel
theorem dX12_put_192 : decode cX12_put 192 = .ok (.iconst 2, 1) := by decide +kernel
theorem dX12_put_193 : decode cX12_put 193 = .ok (.goto 4, 3) := by decide +kernel
theorem dX12_put_196 : decode cX12_put 196 = .ok (.iconst 1, 1) := by decide +kernel
theorem dX12_put_197 : decode cX12_put 197 = .ok (.iastore, 1) := by decide +kernel
theorem dX12_put_198 : decode cX12_put 198 = .ok (.aload_n 0, 1) := by decide +kernel
theorem dX12_put_199 : decode cX12_put 199 = .ok (.getfield 9, 3) := by decide +kernel
theorem dX12_put_202 : decode cX12_put 202 = .ok (.sipush 343, 3) := by decide +kernel
theorem dX12_put_205 : decode cX12_put 205 = .ok (.iload 6, 2) := by decide +kernel
theorem dX12_put_207 : decode cX12_put 207 = .ok (.iadd, 1) := by decide +kernel
theorem dX12_put_208 : decode cX12_put 208 = .ok (.dup2, 1) := by decide +kernel
theorem dX12_put_209 : decode cX12_put 209 = .ok (.iaload, 1) := by decide +kernel
theorem dX12_put_210 : decode cX12_put 210 = .ok (.aload_n 0, 1) := by decide +kernel
theorem dX12_put_211 : decode cX12_put 211 = .ok (.getfield 9, 3) := by decide +kernel
theorem dX12_put_214 : decode cX12_put 214 = .ok (.iload 7, 2) := by decide +kernel
theorem dX12_put_216 : decode cX12_put 216 = .ok (.iconst 3, 1) := by decide +kernel
theorem dX12_put_217 : decode cX12_put 217 = .ok (.iadd, 1) := by decide +kernel
theorem dX12_put_218 : decode cX12_put 218 = .ok (.iaload, 1) := by decide +kernel
theorem dX12_put_219 : decode cX12_put 219 = .ok (.iadd, 1) := by decide +kernel
theorem dX12_put_220 : decode cX12_put 220 = .ok (.iastore, 1) := by decide +kernel
theorem dX12_put_221 : decode cX12_put 221 = .ok (.aload_n 0, 1) := by decide +kernel
theorem dX12_put_222 : decode cX12_put 222 = .ok (.getfield 9, 3) := by decide +kernel
theorem dX12_put_225 : decode cX12_put 225 = .ok (.iconst 3, 1) := by decide +kernel
theorem dX12_put_226 : decode cX12_put 226 = .ok (.dup2, 1) := by decide +kernel
theorem dX12_put_227 : decode cX12_put 227 = .ok (.iaload, 1) := by decide +kernel
theorem dX12_put_228 : decode cX12_put 228 = .ok (.iconst 1, 1) := by decide +kernel
theorem dX12_put_229 : decode cX12_put 229 = .ok (.iadd, 1) := by decide +kernel
theorem dX12_put_230 : decode cX12_put 230 = .ok (.iastore, 1) := by decide +kernel
theorem dX12_put_231 : decode cX12_put 231 = .ok (.iload 6, 2) := by decide +kernel
theorem dX12_put_233 : decode cX12_put 233 = .ok (.ireturn, 1) := by decide +kernel
set_option maxRecDepth 20000 in
theorem ggX12_creditOf_X12_lies : GoodIn wsX12_creditOf wsX12_lies := goodIn_r _ [6, 1, 7, 8, 9, 10, 11, 12, 13, 14, 15, 16, 17, 18, 19, 20, 21, 22, 23, 24, 25, 26, 27, 28, 29, 30, 31, 32, 33, 34, 35, 36, 37, 38, 39, 40, 41] (by decide +kernel) (by decide +kernel)
set_option maxRecDepth 20000 in
theorem gX12_creditOf_X12_lies : GoodIn wsX12_creditOf (wsV RX12 312 RX12 yX12_lies wsX12_lies) := goodIn_app (goodIn_of _ (by decide +kernel)) ggX12_creditOf_X12_lies
theorem dX12_creditOf_0 : decode cX12_creditOf 0 = .ok (.iconst 0, 1) := by decide +kernel
theorem dX12_creditOf_1 : decode cX12_creditOf 1 = .ok (.istore_n 1, 1) := by decide +kernel
theorem dX12_creditOf_2 : decode cX12_creditOf 2 = .ok (.iconst 0, 1) := by decide +kernel
theorem dX12_creditOf_3 : decode cX12_creditOf 3 = .ok (.istore_n 2, 1) := by decide +kernel
theorem dX12_creditOf_4 : decode cX12_creditOf 4 = .ok (.iload_n 2, 1) := by decide +kernel
theorem dX12_creditOf_5 : decode cX12_creditOf 5 = .ok (.aload_n 0, 1) := by decide +kernel
theorem dX12_creditOf_6 : decode cX12_creditOf 6 = .ok (.getfield 9, 3) := by decide +kernel
theorem dX12_creditOf_9 : decode cX12_creditOf 9 = .ok (.iconst 3, 1) := by decide +kernel
theorem dX12_creditOf_10 : decode cX12_creditOf 10 = .ok (.iaload, 1) := by decide +kernel
theorem dX12_creditOf_11 : decode cX12_creditOf 11 = .ok (.if_icmp .ge 18, 3) := by decide +kernel
theorem dX12_creditOf_14 : decode cX12_creditOf 14 = .ok (.iload_n 1, 1) := by decide +kernel
theorem dX12_creditOf_15 : decode cX12_creditOf 15 = .ok (.aload_n 0, 1) := by decide +kernel
theorem dX12_creditOf_16 : decode cX12_creditOf 16 = .ok (.iload_n 2, 1) := by decide +kernel
theorem dX12_creditOf_17 : decode cX12_creditOf 17 = .ok (.iconst 2, 1) := by decide +kernel
theorem dX12_creditOf_18 : decode cX12_creditOf 18 = .ok (.invokevirtual 312, 3) := by decide +kernel
theorem dX12_creditOf_21 : decode cX12_creditOf 21 = .ok (.iadd, 1) := by decide +kernel
theorem dX12_creditOf_22 : decode cX12_creditOf 22 = .ok (.istore_n 1, 1) := by decide +kernel
theorem dX12_creditOf_23 : decode cX12_creditOf 23 = .ok (.iinc 2 1, 3) := by decide +kernel
theorem dX12_creditOf_26 : decode cX12_creditOf 26 = .ok (.goto (-22), 3) := by decide +kernel
theorem dX12_creditOf_29 : decode cX12_creditOf 29 = .ok (.iload_n 1, 1) := by decide +kernel
theorem dX12_creditOf_30 : decode cX12_creditOf 30 = .ok (.ireturn, 1) := by decide +kernel
set_option maxRecDepth 20000 in
theorem ggX12_credit_X12_creditOf : GoodIn wsX12_credit wsX12_creditOf := goodIn_r _ [6, 7, 8, 9, 10, 5, 11, 12, 13, 14, 15, 16, 17, 18, 19, 20, 21, 22, 23, 24, 25, 26, 27, 28, 29, 30, 31, 32, 33, 34, 35, 36, 37, 38, 39, 40, 41, 42, 43, 44, 45, 46] (by decide +kernel) (by decide +kernel)
set_option maxRecDepth 20000 in
theorem gX12_credit_X12_creditOf : GoodIn wsX12_credit (wsV RX12 315 RX12 yX12_creditOf wsX12_creditOf) := goodIn_app (goodIn_of _ (by decide +kernel)) ggX12_credit_X12_creditOf
theorem dX12_credit_0 : decode cX12_credit 0 = .ok (.aload_n 0, 1) := by decide +kernel
theorem dX12_credit_1 : decode cX12_credit 1 = .ok (.iconst 0, 1) := by decide +kernel
theorem dX12_credit_2 : decode cX12_credit 2 = .ok (.putfield 80, 3) := by decide +kernel
theorem dX12_credit_5 : decode cX12_credit 5 = .ok (.aload_n 0, 1) := by decide +kernel
theorem dX12_credit_6 : decode cX12_credit 6 = .ok (.invokevirtual 315, 3) := by decide +kernel
theorem dX12_credit_9 : decode cX12_credit 9 = .ok (.ireturn, 1) := by decide +kernel
theorem dX12_gives_0 : decode cX12_gives 0 = .ok (.aload_n 0, 1) := by decide +kernel
theorem dX12_gives_1 : decode cX12_gives 1 = .ok (.getfield 9, 3) := by decide +kernel
theorem dX12_gives_4 : decode cX12_gives 4 = .ok (.sipush 405, 3) := by decide +kernel
theorem dX12_gives_7 : decode cX12_gives 7 = .ok (.aload_n 0, 1) := by decide +kernel
theorem dX12_gives_8 : decode cX12_gives 8 = .ok (.getfield 9, 3) := by decide +kernel
theorem dX12_gives_11 : decode cX12_gives 11 = .ok (.bipush 6, 2) := by decide +kernel
theorem dX12_gives_13 : decode cX12_gives 13 = .ok (.iaload, 1) := by decide +kernel
theorem dX12_gives_14 : decode cX12_gives 14 = .ok (.iadd, 1) := by decide +kernel
theorem dX12_gives_15 : decode cX12_gives 15 = .ok (.iload_n 1, 1) := by decide +kernel
theorem dX12_gives_16 : decode cX12_gives 16 = .ok (.iastore, 1) := by decide +kernel
theorem dX12_gives_17 : decode cX12_gives 17 = .ok (.aload_n 0, 1) := by decide +kernel
theorem dX12_gives_18 : decode cX12_gives 18 = .ok (.getfield 9, 3) := by decide +kernel
theorem dX12_gives_21 : decode cX12_gives 21 = .ok (.bipush 6, 2) := by decide +kernel
theorem dX12_gives_23 : decode cX12_gives 23 = .ok (.dup2, 1) := by decide +kernel
theorem dX12_gives_24 : decode cX12_gives 24 = .ok (.iaload, 1) := by decide +kernel
theorem dX12_gives_25 : decode cX12_gives 25 = .ok (.iconst 1, 1) := by decide +kernel
theorem dX12_gives_26 : decode cX12_gives 26 = .ok (.iadd, 1) := by decide +kernel
theorem dX12_gives_27 : decode cX12_gives 27 = .ok (.iastore, 1) := by decide +kernel
theorem dX12_gives_28 : decode cX12_gives 28 = .ok (.return_, 1) := by decide +kernel
set_option maxRecDepth 20000 in
theorem ggX12_sale_X12_isOffer : GoodIn wsX12_sale wsX12_isOffer := goodIn_r _ [8, 9, 10, 11, 7, 12, 2, 13, 14, 15, 79, 80, 81, 82, 83, 84, 85, 86, 87, 88, 89, 90, 91, 92, 93, 94, 95, 96, 97, 98, 99, 100, 101, 102, 103, 104, 105, 106, 107, 108, 109, 110, 111, 112, 113] (by decide +kernel) (by decide +kernel)
set_option maxRecDepth 20000 in
theorem gX12_sale_X12_isOffer : GoodIn wsX12_sale (wsV RX12 290 RX12 yX12_isOffer wsX12_isOffer) := goodIn_app (goodIn_of _ (by decide +kernel)) ggX12_sale_X12_isOffer
set_option maxRecDepth 20000 in
theorem ggX12_sale_X12_fails : GoodIn wsX12_sale wsX12_fails := goodIn_r _ [19, 1, 79, 80, 81, 82, 83, 84, 85, 86, 87, 88, 89, 90, 91, 92, 93, 94, 95, 96, 97, 98, 99, 100, 101, 102, 103, 104, 105, 106, 107, 108, 109, 110, 111, 112, 113] (by decide +kernel) (by decide +kernel)
set_option maxRecDepth 20000 in
theorem gX12_sale_X12_fails : GoodIn wsX12_sale (wsV RX12 95 RX12 yX12_fails wsX12_fails) := goodIn_app (goodIn_of _ (by decide +kernel)) ggX12_sale_X12_fails
set_option maxRecDepth 20000 in
theorem ggX12_sale_X12_creditOf : GoodIn wsX12_sale wsX12_creditOf := goodIn_r _ [23, 2, 24, 25, 26, 7, 27, 79, 80, 81, 82, 83, 84, 85, 86, 87, 88, 89, 90, 91, 92, 93, 94, 95, 96, 97, 98, 99, 100, 101, 102, 103, 104, 105, 106, 107, 108, 109, 110, 111, 112, 113] (by decide +kernel) (by decide +kernel)
set_option maxRecDepth 20000 in
theorem gX12_sale_X12_creditOf : GoodIn wsX12_sale (wsV RX12 315 RX12 yX12_creditOf wsX12_creditOf) := goodIn_app (goodIn_of _ (by decide +kernel)) ggX12_sale_X12_creditOf
set_option maxRecDepth 20000 in
theorem ggX12_sale_X12_haveTubes : GoodIn wsX12_sale wsX12_haveTubes := goodIn_r _ [31, 32, 2, 33, 34, 35, 7, 36, 79, 80, 81, 82, 83, 84, 85, 86, 87, 88, 89, 90, 91, 92, 93, 94, 95, 96, 97, 98, 99, 100, 101, 102, 103, 104, 105, 106, 107, 108, 109, 110, 111, 112, 113] (by decide +kernel) (by decide +kernel)
set_option maxRecDepth 20000 in
theorem gX12_sale_X12_haveTubes : GoodIn wsX12_sale (wsV RX12 318 RX12 yX12_haveTubes wsX12_haveTubes) := goodIn_app (goodIn_of _ (by decide +kernel)) ggX12_sale_X12_haveTubes
set_option maxRecDepth 20000 in
theorem ggX12_sale_X12_changes : GoodIn wsX12_sale wsX12_changes := goodIn_r _ [40, 41, 42, 32, 43, 44, 45, 46, 3, 47, 48, 49, 7, 50, 51, 52, 53, 54, 55, 56, 57, 58, 59, 60, 61, 62, 2, 63, 64, 65, 66, 9, 10, 11, 12, 13, 14, 15, 67, 68, 69, 70, 79, 80, 81, 82, 83, 84, 85, 86, 87, 88, 89, 90, 91, 92, 93, 94, 95, 96, 97, 98, 99, 100, 101, 102, 103, 104, 105, 106, 107, 108, 109, 110, 111, 112, 113] (by decide +kernel) (by decide +kernel)
set_option maxRecDepth 20000 in
theorem gX12_sale_X12_changes : GoodIn wsX12_sale (wsV RX12 321 RX12 yX12_changes wsX12_changes) := goodIn_app (goodIn_of _ (by decide +kernel)) ggX12_sale_X12_changes
set_option maxRecDepth 20000 in
theorem ggX12_sale_X12_tubeAt : GoodIn wsX12_sale wsX12_tubeAt := goodIn_r _ [36] (by decide +kernel) (by decide +kernel)
set_option maxRecDepth 20000 in
theorem gX12_sale_X12_tubeAt : GoodIn wsX12_sale (wsV RX12 293 RX12 yX12_tubeAt wsX12_tubeAt) := goodIn_app (goodIn_of _ (by decide +kernel)) ggX12_sale_X12_tubeAt
set_option maxRecDepth 20000 in
theorem ggX12_sale_X12_gives : GoodIn wsX12_sale wsX12_gives := goodIn_r _ [74, 2, 79, 80, 81, 82, 83, 84, 85, 86, 87, 88, 89, 90, 91, 92, 93, 94, 95, 96, 97, 98, 99, 100, 101, 102, 103, 104, 105, 106, 107, 108, 109, 110, 111, 112, 113] (by decide +kernel) (by decide +kernel)
set_option maxRecDepth 20000 in
theorem gX12_sale_X12_gives : GoodIn wsX12_sale (wsV RX12 324 RX12 yX12_gives wsX12_gives) := goodIn_app (goodIn_of _ (by decide +kernel)) ggX12_sale_X12_gives
set_option maxRecDepth 20000 in
theorem ggX12_sale_X12_lies : GoodIn wsX12_sale wsX12_lies := goodIn_r _ [27, 2, 79, 80, 81, 82, 83, 84, 85, 86, 87, 88, 89, 90, 91, 92, 93, 94, 95, 96, 97, 98, 99, 100, 101, 102, 103, 104, 105, 106, 107, 108, 109, 110, 111, 112, 113] (by decide +kernel) (by decide +kernel)
set_option maxRecDepth 20000 in
theorem gX12_sale_X12_lies : GoodIn wsX12_sale (wsV RX12 312 RX12 yX12_lies wsX12_lies) := goodIn_app (goodIn_of _ (by decide +kernel)) ggX12_sale_X12_lies
set_option maxRecDepth 20000 in
theorem ggX12_sale_X12_drops : GoodIn wsX12_sale wsX12_drops := goodIn_r _ [78, 2, 33, 34, 35, 7, 36, 79, 80, 81, 82, 83, 84, 85, 86, 87, 88, 89, 90, 91, 92, 93, 94, 95, 96, 97, 98, 99, 100, 101, 102, 103, 104, 105, 106, 107, 108, 109, 110, 111, 112, 113] (by decide +kernel) (by decide +kernel)
set_option maxRecDepth 20000 in
theorem gX12_sale_X12_drops : GoodIn wsX12_sale (wsV RX12 298 RX12 yX12_drops wsX12_drops) := goodIn_app (goodIn_of _ (by decide +kernel)) ggX12_sale_X12_drops
theorem dX12_sale_0 : decode cX12_sale 0 = .ok (.aload_n 0, 1) := by decide +kernel
theorem dX12_sale_1 : decode cX12_sale 1 = .ok (.iconst 0, 1) := by decide +kernel
theorem dX12_sale_2 : decode cX12_sale 2 = .ok (.putfield 80, 3) := by decide +kernel
theorem dX12_sale_5 : decode cX12_sale 5 = .ok (.aload_n 0, 1) := by decide +kernel
theorem dX12_sale_6 : decode cX12_sale 6 = .ok (.iload_n 1, 1) := by decide +kernel
theorem dX12_sale_7 : decode cX12_sale 7 = .ok (.invokevirtual 290, 3) := by decide +kernel
theorem dX12_sale_10 : decode cX12_sale 10 = .ok (.ifCond .ne 9, 3) := by decide +kernel
theorem dX12_sale_13 : decode cX12_sale 13 = .ok (.aload_n 0, 1) := by decide +kernel
theorem dX12_sale_14 : decode cX12_sale 14 = .ok (.iconst 1, 1) := by decide +kernel
theorem dX12_sale_15 : decode cX12_sale 15 = .ok (.invokevirtual 95, 3) := by decide +kernel
theorem dX12_sale_18 : decode cX12_sale 18 = .ok (.ireturn, 1) := by decide +kernel
theorem dX12_sale_19 : decode cX12_sale 19 = .ok (.aload_n 0, 1) := by decide +kernel
theorem dX12_sale_20 : decode cX12_sale 20 = .ok (.invokevirtual 315, 3) := by decide +kernel
theorem dX12_sale_23 : decode cX12_sale 23 = .ok (.aload_n 0, 1) := by decide +kernel
theorem dX12_sale_24 : decode cX12_sale 24 = .ok (.getfield 9, 3) := by decide +kernel
theorem dX12_sale_27 : decode cX12_sale 27 = .ok (.sipush 351, 3) := by decide +kernel
theorem dX12_sale_30 : decode cX12_sale 30 = .ok (.iload_n 1, 1) := by decide +kernel
theorem dX12_sale_31 : decode cX12_sale 31 = .ok (.iadd, 1) := by decide +kernel
theorem dX12_sale_32 : decode cX12_sale 32 = .ok (.iaload, 1) := by decide +kernel
theorem dX12_sale_33 : decode cX12_sale 33 = .ok (.isub, 1) := by decide +kernel
theorem dX12_sale_34 : decode cX12_sale 34 = .ok (.istore_n 2, 1) := by decide +kernel
theorem dX12_sale_35 : decode cX12_sale 35 = .ok (.aload_n 0, 1) := by decide +kernel
theorem dX12_sale_36 : decode cX12_sale 36 = .ok (.invokevirtual 318, 3) := by decide +kernel
theorem dX12_sale_39 : decode cX12_sale 39 = .ok (.iload_n 2, 1) := by decide +kernel
theorem dX12_sale_40 : decode cX12_sale 40 = .ok (.ifCond .lt 12, 3) := by decide +kernel
theorem dX12_sale_43 : decode cX12_sale 43 = .ok (.aload_n 0, 1) := by decide +kernel
theorem dX12_sale_44 : decode cX12_sale 44 = .ok (.iload_n 2, 1) := by decide +kernel
theorem dX12_sale_45 : decode cX12_sale 45 = .ok (.invokevirtual 321, 3) := by decide +kernel
theorem dX12_sale_48 : decode cX12_sale 48 = .ok (.iconst (-1), 1) := by decide +kernel
theorem dX12_sale_49 : decode cX12_sale 49 = .ok (.if_icmp .ne 5, 3) := by decide +kernel
theorem dX12_sale_52 : decode cX12_sale 52 = .ok (.iconst (-1), 1) := by decide +kernel
theorem dX12_sale_53 : decode cX12_sale 53 = .ok (.ireturn, 1) := by decide +kernel
theorem dX12_sale_54 : decode cX12_sale 54 = .ok (.aload_n 0, 1) := by decide +kernel
theorem dX12_sale_55 : decode cX12_sale 55 = .ok (.getfield 9, 3) := by decide +kernel
theorem dX12_sale_58 : decode cX12_sale 58 = .ok (.bipush 6, 2) := by decide +kernel
theorem dX12_sale_60 : decode cX12_sale 60 = .ok (.iconst 0, 1) := by decide +kernel
theorem dX12_sale_61 : decode cX12_sale 61 = .ok (.iastore, 1) := by decide +kernel
theorem dX12_sale_62 : decode cX12_sale 62 = .ok (.iconst 0, 1) := by decide +kernel
theorem dX12_sale_63 : decode cX12_sale 63 = .ok (.istore_n 3, 1) := by decide +kernel
theorem dX12_sale_64 : decode cX12_sale 64 = .ok (.iload_n 3, 1) := by decide +kernel
theorem dX12_sale_65 : decode cX12_sale 65 = .ok (.bipush 8, 2) := by decide +kernel
theorem dX12_sale_67 : decode cX12_sale 67 = .ok (.if_icmp .ge 80, 3) := by decide +kernel
theorem dX12_sale_70 : decode cX12_sale 70 = .ok (.iconst 0, 1) := by decide +kernel
theorem dX12_sale_71 : decode cX12_sale 71 = .ok (.istore 4, 2) := by decide +kernel
theorem dX12_sale_73 : decode cX12_sale 73 = .ok (.iload 4, 2) := by decide +kernel
theorem dX12_sale_75 : decode cX12_sale 75 = .ok (.aload_n 0, 1) := by decide +kernel
theorem dX12_sale_76 : decode cX12_sale 76 = .ok (.getfield 47, 3) := by decide +kernel
theorem dX12_sale_79 : decode cX12_sale 79 = .ok (.iload_n 3, 1) := by decide +kernel
theorem dX12_sale_80 : decode cX12_sale 80 = .ok (.iaload, 1) := by decide +kernel
theorem dX12_sale_81 : decode cX12_sale 81 = .ok (.if_icmp .ge 60, 3) := by decide +kernel
theorem dX12_sale_84 : decode cX12_sale 84 = .ok (.aload_n 0, 1) := by decide +kernel
theorem dX12_sale_85 : decode cX12_sale 85 = .ok (.iload_n 3, 1) := by decide +kernel
theorem dX12_sale_86 : decode cX12_sale 86 = .ok (.invokevirtual 293, 3) := by decide +kernel
theorem dX12_sale_89 : decode cX12_sale 89 = .ok (.istore 5, 2) := by decide +kernel
theorem dX12_sale_91 : decode cX12_sale 91 = .ok (.aload_n 0, 1) := by decide +kernel
theorem dX12_sale_92 : decode cX12_sale 92 = .ok (.aload_n 0, 1) := by decide +kernel
theorem dX12_sale_93 : decode cX12_sale 93 = .ok (.getfield 9, 3) := by decide +kernel
theorem dX12_sale_96 : decode cX12_sale 96 = .ok (.iload 5, 2) := by decide +kernel
theorem dX12_sale_98 : decode cX12_sale 98 = .ok (.aload_n 0, 1) := by decide +kernel
theorem dX12_sale_99 : decode cX12_sale 99 = .ok (.getfield 9, 3) := by decide +kernel
theorem dX12_sale_102 : decode cX12_sale 102 = .ok (.iload 5, 2) := by decide +kernel
theorem dX12_sale_104 : decode cX12_sale 104 = .ok (.iaload, 1) := by decide +kernel
theorem dX12_sale_105 : decode cX12_sale 105 = .ok (.iadd, 1) := by decide +kernel
theorem dX12_sale_106 : decode cX12_sale 106 = .ok (.iaload, 1) := by decide +kernel
theorem dX12_sale_107 : decode cX12_sale 107 = .ok (.invokevirtual 324, 3) := by decide +kernel
theorem dX12_sale_110 : decode cX12_sale 110 = .ok (.aload_n 0, 1) := by decide +kernel
theorem dX12_sale_111 : decode cX12_sale 111 = .ok (.getfield 9, 3) := by decide +kernel
theorem dX12_sale_114 : decode cX12_sale 114 = .ok (.iload 5, 2) := by decide +kernel
theorem dX12_sale_116 : decode cX12_sale 116 = .ok (.dup2, 1) := by decide +kernel
theorem dX12_sale_117 : decode cX12_sale 117 = .ok (.iaload, 1) := by decide +kernel
theorem dX12_sale_118 : decode cX12_sale 118 = .ok (.iconst 1, 1) := by decide +kernel
theorem dX12_sale_119 : decode cX12_sale 119 = .ok (.isub, 1) := by decide +kernel
theorem dX12_sale_120 : decode cX12_sale 120 = .ok (.iastore, 1) := by decide +kernel
theorem dX12_sale_121 : decode cX12_sale 121 = .ok (.aload_n 0, 1) := by decide +kernel
theorem dX12_sale_122 : decode cX12_sale 122 = .ok (.getfield 9, 3) := by decide +kernel
theorem dX12_sale_125 : decode cX12_sale 125 = .ok (.sipush 343, 3) := by decide +kernel
theorem dX12_sale_128 : decode cX12_sale 128 = .ok (.iload_n 3, 1) := by decide +kernel
theorem dX12_sale_129 : decode cX12_sale 129 = .ok (.iadd, 1) := by decide +kernel
theorem dX12_sale_130 : decode cX12_sale 130 = .ok (.dup2, 1) := by decide +kernel
theorem dX12_sale_131 : decode cX12_sale 131 = .ok (.iaload, 1) := by decide +kernel
theorem dX12_sale_132 : decode cX12_sale 132 = .ok (.iconst 1, 1) := by decide +kernel
theorem dX12_sale_133 : decode cX12_sale 133 = .ok (.isub, 1) := by decide +kernel
theorem dX12_sale_134 : decode cX12_sale 134 = .ok (.iastore, 1) := by decide +kernel
theorem dX12_sale_135 : decode cX12_sale 135 = .ok (.iinc 4 1, 3) := by decide +kernel
theorem dX12_sale_138 : decode cX12_sale 138 = .ok (.goto (-65), 3) := by decide +kernel
theorem dX12_sale_141 : decode cX12_sale 141 = .ok (.iinc 3 1, 3) := by decide +kernel
theorem dX12_sale_144 : decode cX12_sale 144 = .ok (.goto (-80), 3) := by decide +kernel
theorem dX12_sale_147 : decode cX12_sale 147 = .ok (.iconst 0, 1) := by decide +kernel
theorem dX12_sale_148 : decode cX12_sale 148 = .ok (.istore_n 3, 1) := by decide +kernel
theorem dX12_sale_149 : decode cX12_sale 149 = .ok (.iload_n 3, 1) := by decide +kernel
theorem dX12_sale_150 : decode cX12_sale 150 = .ok (.aload_n 0, 1) := by decide +kernel
theorem dX12_sale_151 : decode cX12_sale 151 = .ok (.getfield 9, 3) := by decide +kernel
theorem dX12_sale_154 : decode cX12_sale 154 = .ok (.iconst 3, 1) := by decide +kernel
theorem dX12_sale_155 : decode cX12_sale 155 = .ok (.iaload, 1) := by decide +kernel
theorem dX12_sale_156 : decode cX12_sale 156 = .ok (.if_icmp .ge 35, 3) := by decide +kernel
theorem dX12_sale_159 : decode cX12_sale 159 = .ok (.aload_n 0, 1) := by decide +kernel
theorem dX12_sale_160 : decode cX12_sale 160 = .ok (.iload_n 3, 1) := by decide +kernel
theorem dX12_sale_161 : decode cX12_sale 161 = .ok (.iconst 1, 1) := by decide +kernel
theorem dX12_sale_162 : decode cX12_sale 162 = .ok (.invokevirtual 312, 3) := by decide +kernel
theorem dX12_sale_165 : decode cX12_sale 165 = .ok (.iconst (-1), 1) := by decide +kernel
theorem dX12_sale_166 : decode cX12_sale 166 = .ok (.if_icmp .eq 19, 3) := by decide +kernel
theorem dX12_sale_169 : decode cX12_sale 169 = .ok (.aload_n 0, 1) := by decide +kernel
theorem dX12_sale_170 : decode cX12_sale 170 = .ok (.aload_n 0, 1) := by decide +kernel
theorem dX12_sale_171 : decode cX12_sale 171 = .ok (.iload_n 3, 1) := by decide +kernel
theorem dX12_sale_172 : decode cX12_sale 172 = .ok (.iconst 0, 1) := by decide +kernel
theorem dX12_sale_173 : decode cX12_sale 173 = .ok (.invokevirtual 312, 3) := by decide +kernel
theorem dX12_sale_176 : decode cX12_sale 176 = .ok (.aload_n 0, 1) := by decide +kernel
theorem dX12_sale_177 : decode cX12_sale 177 = .ok (.iload_n 3, 1) := by decide +kernel
theorem dX12_sale_178 : decode cX12_sale 178 = .ok (.iconst 1, 1) := by decide +kernel
theorem dX12_sale_179 : decode cX12_sale 179 = .ok (.invokevirtual 312, 3) := by decide +kernel
theorem dX12_sale_182 : decode cX12_sale 182 = .ok (.invokevirtual 298, 3) := by decide +kernel
theorem dX12_sale_185 : decode cX12_sale 185 = .ok (.iinc 3 1, 3) := by decide +kernel
theorem dX12_sale_188 : decode cX12_sale 188 = .ok (.goto (-39), 3) := by decide +kernel
theorem dX12_sale_191 : decode cX12_sale 191 = .ok (.aload_n 0, 1) := by decide +kernel
theorem dX12_sale_192 : decode cX12_sale 192 = .ok (.getfield 9, 3) := by decide +kernel
theorem dX12_sale_195 : decode cX12_sale 195 = .ok (.iconst 3, 1) := by decide +kernel
theorem dX12_sale_196 : decode cX12_sale 196 = .ok (.iconst 0, 1) := by decide +kernel
theorem dX12_sale_197 : decode cX12_sale 197 = .ok (.iastore, 1) := by decide +kernel
theorem dX12_sale_198 : decode cX12_sale 198 = .ok (.aload_n 0, 1) := by decide +kernel
theorem dX12_sale_199 : decode cX12_sale 199 = .ok (.getfield 9, 3) := by decide +kernel
theorem dX12_sale_202 : decode cX12_sale 202 = .ok (.bipush 6, 2) := by decide +kernel
theorem dX12_sale_204 : decode cX12_sale 204 = .ok (.iaload, 1) := by decide +kernel
theorem dX12_sale_205 : decode cX12_sale 205 = .ok (.ireturn, 1) := by decide +kernel
set_option maxRecDepth 20000 in
theorem ggX12_refund_X12_lies : GoodIn wsX12_refund wsX12_lies := goodIn_r _ [7, 2, 12, 13, 14, 15, 16, 17, 18, 19, 20, 21, 22, 23, 24, 25, 26, 27, 28, 29, 30, 31, 32, 33, 34, 35, 36, 37, 38, 39, 40, 41, 42, 43, 44, 45, 46] (by decide +kernel) (by decide +kernel)
set_option maxRecDepth 20000 in
theorem gX12_refund_X12_lies : GoodIn wsX12_refund (wsV RX12 312 RX12 yX12_lies wsX12_lies) := goodIn_app (goodIn_of _ (by decide +kernel)) ggX12_refund_X12_lies
set_option maxRecDepth 20000 in
theorem ggX12_refund_X12_gives : GoodIn wsX12_refund wsX12_gives := goodIn_r _ [11, 2, 12, 13, 14, 15, 16, 17, 18, 19, 20, 21, 22, 23, 24, 25, 26, 27, 28, 29, 30, 31, 32, 33, 34, 35, 36, 37, 38, 39, 40, 41, 42, 43, 44, 45, 46] (by decide +kernel) (by decide +kernel)
set_option maxRecDepth 20000 in
theorem gX12_refund_X12_gives : GoodIn wsX12_refund (wsV RX12 324 RX12 yX12_gives wsX12_gives) := goodIn_app (goodIn_of _ (by decide +kernel)) ggX12_refund_X12_gives
theorem dX12_refund_0 : decode cX12_refund 0 = .ok (.aload_n 0, 1) := by decide +kernel
theorem dX12_refund_1 : decode cX12_refund 1 = .ok (.iconst 0, 1) := by decide +kernel
theorem dX12_refund_2 : decode cX12_refund 2 = .ok (.putfield 80, 3) := by decide +kernel
theorem dX12_refund_5 : decode cX12_refund 5 = .ok (.aload_n 0, 1) := by decide +kernel
theorem dX12_refund_6 : decode cX12_refund 6 = .ok (.getfield 9, 3) := by decide +kernel
theorem dX12_refund_9 : decode cX12_refund 9 = .ok (.bipush 6, 2) := by decide +kernel
theorem dX12_refund_11 : decode cX12_refund 11 = .ok (.iconst 0, 1) := by decide +kernel
theorem dX12_refund_12 : decode cX12_refund 12 = .ok (.iastore, 1) := by decide +kernel
theorem dX12_refund_13 : decode cX12_refund 13 = .ok (.iconst 0, 1) := by decide +kernel
theorem dX12_refund_14 : decode cX12_refund 14 = .ok (.istore_n 1, 1) := by decide +kernel
theorem dX12_refund_15 : decode cX12_refund 15 = .ok (.iload_n 1, 1) := by decide +kernel
theorem dX12_refund_16 : decode cX12_refund 16 = .ok (.aload_n 0, 1) := by decide +kernel
theorem dX12_refund_17 : decode cX12_refund 17 = .ok (.getfield 9, 3) := by decide +kernel
theorem dX12_refund_20 : decode cX12_refund 20 = .ok (.iconst 3, 1) := by decide +kernel
theorem dX12_refund_21 : decode cX12_refund 21 = .ok (.iaload, 1) := by decide +kernel
theorem dX12_refund_22 : decode cX12_refund 22 = .ok (.if_icmp .ge 53, 3) := by decide +kernel
theorem dX12_refund_25 : decode cX12_refund 25 = .ok (.aload_n 0, 1) := by decide +kernel
theorem dX12_refund_26 : decode cX12_refund 26 = .ok (.iload_n 1, 1) := by decide +kernel
theorem dX12_refund_27 : decode cX12_refund 27 = .ok (.iconst 1, 1) := by decide +kernel
theorem dX12_refund_28 : decode cX12_refund 28 = .ok (.invokevirtual 312, 3) := by decide +kernel
theorem dX12_refund_31 : decode cX12_refund 31 = .ok (.iconst (-1), 1) := by decide +kernel
theorem dX12_refund_32 : decode cX12_refund 32 = .ok (.if_icmp .eq 13, 3) := by decide +kernel
theorem dX12_refund_35 : decode cX12_refund 35 = .ok (.aload_n 0, 1) := by decide +kernel
theorem dX12_refund_36 : decode cX12_refund 36 = .ok (.aload_n 0, 1) := by decide +kernel
theorem dX12_refund_37 : decode cX12_refund 37 = .ok (.iload_n 1, 1) := by decide +kernel
theorem dX12_refund_38 : decode cX12_refund 38 = .ok (.iconst 1, 1) := by decide +kernel
theorem dX12_refund_39 : decode cX12_refund 39 = .ok (.invokevirtual 312, 3) := by decide +kernel
theorem dX12_refund_42 : decode cX12_refund 42 = .ok (.invokevirtual 324, 3) := by decide +kernel
theorem dX12_refund_45 : decode cX12_refund 45 = .ok (.aload_n 0, 1) := by decide +kernel
theorem dX12_refund_46 : decode cX12_refund 46 = .ok (.getfield 9, 3) := by decide +kernel
theorem dX12_refund_49 : decode cX12_refund 49 = .ok (.sipush 343, 3) := by decide +kernel
theorem dX12_refund_52 : decode cX12_refund 52 = .ok (.aload_n 0, 1) := by decide +kernel
theorem dX12_refund_53 : decode cX12_refund 53 = .ok (.iload_n 1, 1) := by decide +kernel
theorem dX12_refund_54 : decode cX12_refund 54 = .ok (.iconst 0, 1) := by decide +kernel
theorem dX12_refund_55 : decode cX12_refund 55 = .ok (.invokevirtual 312, 3) := by decide +kernel
theorem dX12_refund_58 : decode cX12_refund 58 = .ok (.iadd, 1) := by decide +kernel
theorem dX12_refund_59 : decode cX12_refund 59 = .ok (.dup2, 1) := by decide +kernel
theorem dX12_refund_60 : decode cX12_refund 60 = .ok (.iaload, 1) := by decide +kernel
theorem dX12_refund_61 : decode cX12_refund 61 = .ok (.aload_n 0, 1) := by decide +kernel
theorem dX12_refund_62 : decode cX12_refund 62 = .ok (.iload_n 1, 1) := by decide +kernel
theorem dX12_refund_63 : decode cX12_refund 63 = .ok (.iconst 3, 1) := by decide +kernel
theorem dX12_refund_64 : decode cX12_refund 64 = .ok (.invokevirtual 312, 3) := by decide +kernel
theorem dX12_refund_67 : decode cX12_refund 67 = .ok (.isub, 1) := by decide +kernel
theorem dX12_refund_68 : decode cX12_refund 68 = .ok (.iastore, 1) := by decide +kernel
theorem dX12_refund_69 : decode cX12_refund 69 = .ok (.iinc 1 1, 3) := by decide +kernel
theorem dX12_refund_72 : decode cX12_refund 72 = .ok (.goto (-57), 3) := by decide +kernel
theorem dX12_refund_75 : decode cX12_refund 75 = .ok (.aload_n 0, 1) := by decide +kernel
theorem dX12_refund_76 : decode cX12_refund 76 = .ok (.getfield 9, 3) := by decide +kernel
theorem dX12_refund_79 : decode cX12_refund 79 = .ok (.iconst 3, 1) := by decide +kernel
theorem dX12_refund_80 : decode cX12_refund 80 = .ok (.iconst 0, 1) := by decide +kernel
theorem dX12_refund_81 : decode cX12_refund 81 = .ok (.iastore, 1) := by decide +kernel
theorem dX12_refund_82 : decode cX12_refund 82 = .ok (.aload_n 0, 1) := by decide +kernel
theorem dX12_refund_83 : decode cX12_refund 83 = .ok (.getfield 9, 3) := by decide +kernel
theorem dX12_refund_86 : decode cX12_refund 86 = .ok (.bipush 6, 2) := by decide +kernel
theorem dX12_refund_88 : decode cX12_refund 88 = .ok (.iaload, 1) := by decide +kernel
theorem dX12_refund_89 : decode cX12_refund 89 = .ok (.ireturn, 1) := by decide +kernel
set_option maxRecDepth 20000 in
theorem ggX12_given_X12_is : GoodIn wsX12_given wsX12_is := goodIn_r _ [7, 2, 8, 9, 6, 10, 11, 12, 13, 14, 15, 16, 17, 18, 19, 20, 21, 22, 23, 24, 25, 26, 27, 28, 29, 30, 31, 32, 33, 34, 35, 36, 37, 38, 39, 40, 41, 42, 43, 44, 45] (by decide +kernel) (by decide +kernel)
set_option maxRecDepth 20000 in
theorem gX12_given_X12_is : GoodIn wsX12_given (wsV RX12 87 RX12 yX12_is wsX12_is) := goodIn_app (goodIn_of _ (by decide +kernel)) ggX12_given_X12_is
theorem dX12_given_0 : decode cX12_given 0 = .ok (.aload_n 0, 1) := by decide +kernel
theorem dX12_given_1 : decode cX12_given 1 = .ok (.iconst 0, 1) := by decide +kernel
theorem dX12_given_2 : decode cX12_given 2 = .ok (.putfield 80, 3) := by decide +kernel
theorem dX12_given_5 : decode cX12_given 5 = .ok (.aload_n 0, 1) := by decide +kernel
theorem dX12_given_6 : decode cX12_given 6 = .ok (.bipush 6, 2) := by decide +kernel
theorem dX12_given_8 : decode cX12_given 8 = .ok (.iload_n 1, 1) := by decide +kernel
theorem dX12_given_9 : decode cX12_given 9 = .ok (.invokevirtual 87, 3) := by decide +kernel
theorem dX12_given_12 : decode cX12_given 12 = .ok (.ifCond .eq 16, 3) := by decide +kernel
theorem dX12_given_15 : decode cX12_given 15 = .ok (.aload_n 0, 1) := by decide +kernel
theorem dX12_given_16 : decode cX12_given 16 = .ok (.getfield 9, 3) := by decide +kernel
theorem dX12_given_19 : decode cX12_given 19 = .ok (.sipush 405, 3) := by decide +kernel
theorem dX12_given_22 : decode cX12_given 22 = .ok (.iload_n 1, 1) := by decide +kernel
theorem dX12_given_23 : decode cX12_given 23 = .ok (.iadd, 1) := by decide +kernel
theorem dX12_given_24 : decode cX12_given 24 = .ok (.iaload, 1) := by decide +kernel
theorem dX12_given_25 : decode cX12_given 25 = .ok (.goto 4, 3) := by decide +kernel
theorem dX12_given_28 : decode cX12_given 28 = .ok (.iconst (-1), 1) := by decide +kernel
theorem dX12_given_29 : decode cX12_given 29 = .ok (.ireturn, 1) := by decide +kernel
set_option maxRecDepth 20000 in
theorem ggX12_lacks_X12_isOffer : GoodIn wsX12_lacks wsX12_isOffer := goodIn_r _ [14, 15, 16, 17, 13, 18, 5, 19, 20, 21, 62, 63, 64, 65, 66, 67, 68, 69, 70, 71, 72, 73, 74, 75, 76, 77, 78, 79, 80, 81, 82, 83, 84, 85, 86, 87, 88, 89, 90, 91, 92, 93, 94, 95, 96] (by decide +kernel) (by decide +kernel)
set_option maxRecDepth 20000 in
theorem gX12_lacks_X12_isOffer : GoodIn wsX12_lacks (wsV RX12 290 RX12 yX12_isOffer wsX12_isOffer) := goodIn_app (goodIn_of _ (by decide +kernel)) ggX12_lacks_X12_isOffer
set_option maxRecDepth 20000 in
theorem ggX12_lacks_X12_fails : GoodIn wsX12_lacks wsX12_fails := goodIn_r _ [25, 1, 62, 63, 64, 65, 66, 67, 68, 69, 70, 71, 72, 73, 74, 75, 76, 77, 78, 79, 80, 81, 82, 83, 84, 85, 86, 87, 88, 89, 90, 91, 92, 93, 94, 95, 96] (by decide +kernel) (by decide +kernel)
set_option maxRecDepth 20000 in
theorem gX12_lacks_X12_fails : GoodIn wsX12_lacks (wsV RX12 95 RX12 yX12_fails wsX12_fails) := goodIn_app (goodIn_of _ (by decide +kernel)) ggX12_lacks_X12_fails
set_option maxRecDepth 20000 in
theorem ggX12_lacks_X12_within : GoodIn wsX12_lacks wsX12_within := goodIn_r _ [21] (by decide +kernel) (by decide +kernel)
set_option maxRecDepth 20000 in
theorem gX12_lacks_X12_within : GoodIn wsX12_lacks (va_wsS RX12 83 yX12_within wsX12_within) := goodIn_app (goodIn_of _ (by decide +kernel)) ggX12_lacks_X12_within
set_option maxRecDepth 20000 in
theorem ggX12_lacks_X12_haveTubes : GoodIn wsX12_lacks wsX12_haveTubes := goodIn_r _ [29, 30, 5, 31, 32, 33, 13, 34, 62, 63, 64, 65, 66, 67, 68, 69, 70, 71, 72, 73, 74, 75, 76, 77, 78, 79, 80, 81, 82, 83, 84, 85, 86, 87, 88, 89, 90, 91, 92, 93, 94, 95, 96] (by decide +kernel) (by decide +kernel)
set_option maxRecDepth 20000 in
theorem gX12_lacks_X12_haveTubes : GoodIn wsX12_lacks (wsV RX12 318 RX12 yX12_haveTubes wsX12_haveTubes) := goodIn_app (goodIn_of _ (by decide +kernel)) ggX12_lacks_X12_haveTubes
set_option maxRecDepth 20000 in
theorem ggX12_lacks_X12_layChange : GoodIn wsX12_lacks wsX12_layChange := goodIn_r _ [38, 3, 4, 30, 39, 40, 8, 41, 42, 43, 44, 13, 45, 46, 47, 48, 49, 50, 51, 52, 53, 5, 54, 55, 56, 57, 15, 16, 17, 18, 19, 20, 21, 58, 59, 60, 61, 62, 63, 64, 65, 66, 67, 68, 69, 70, 71, 72, 73, 74, 75, 76, 77, 78, 79, 80, 81, 82, 83, 84, 85, 86, 87, 88, 89, 90, 91, 92, 93, 94, 95, 96] (by decide +kernel) (by decide +kernel)
set_option maxRecDepth 20000 in
theorem gX12_lacks_X12_layChange : GoodIn wsX12_lacks (wsV RX12 305 RX12 yX12_layChange wsX12_layChange) := goodIn_app (goodIn_of _ (by decide +kernel)) ggX12_lacks_X12_layChange
set_option maxRecDepth 20000 in
theorem ggX12_lacks_X12_at : GoodIn wsX12_lacks wsX12_at := goodIn_r _ [45] (by decide +kernel) (by decide +kernel)
set_option maxRecDepth 20000 in
theorem gX12_lacks_X12_at : GoodIn wsX12_lacks (wsV RX12 302 RX12 yX12_at wsX12_at) := goodIn_app (goodIn_of _ (by decide +kernel)) ggX12_lacks_X12_at
theorem dX12_lacks_0 : decode cX12_lacks 0 = .ok (.aload_n 0, 1) := by decide +kernel
theorem dX12_lacks_1 : decode cX12_lacks 1 = .ok (.iconst 0, 1) := by decide +kernel
theorem dX12_lacks_2 : decode cX12_lacks 2 = .ok (.putfield 80, 3) := by decide +kernel
theorem dX12_lacks_5 : decode cX12_lacks 5 = .ok (.aload_n 0, 1) := by decide +kernel
theorem dX12_lacks_6 : decode cX12_lacks 6 = .ok (.iload_n 1, 1) := by decide +kernel
theorem dX12_lacks_7 : decode cX12_lacks 7 = .ok (.invokevirtual 290, 3) := by decide +kernel
theorem dX12_lacks_10 : decode cX12_lacks 10 = .ok (.ifCond .ne 9, 3) := by decide +kernel
theorem dX12_lacks_13 : decode cX12_lacks 13 = .ok (.aload_n 0, 1) := by decide +kernel
theorem dX12_lacks_14 : decode cX12_lacks 14 = .ok (.iconst 1, 1) := by decide +kernel
theorem dX12_lacks_15 : decode cX12_lacks 15 = .ok (.invokevirtual 95, 3) := by decide +kernel
theorem dX12_lacks_18 : decode cX12_lacks 18 = .ok (.ireturn, 1) := by decide +kernel
theorem dX12_lacks_19 : decode cX12_lacks 19 = .ok (.iload_n 2, 1) := by decide +kernel
theorem dX12_lacks_20 : decode cX12_lacks 20 = .ok (.i2l, 1) := by decide +kernel
theorem dX12_lacks_21 : decode cX12_lacks 21 = .ok (.lconst 0, 1) := by decide +kernel
theorem dX12_lacks_22 : decode cX12_lacks 22 = .ok (.ldc2_w 103, 3) := by decide +kernel
theorem dX12_lacks_25 : decode cX12_lacks 25 = .ok (.invokestatic 83, 3) := by decide +kernel
theorem dX12_lacks_28 : decode cX12_lacks 28 = .ok (.ifCond .ne 9, 3) := by decide +kernel
theorem dX12_lacks_31 : decode cX12_lacks 31 = .ok (.aload_n 0, 1) := by decide +kernel
theorem dX12_lacks_32 : decode cX12_lacks 32 = .ok (.iconst 2, 1) := by decide +kernel
theorem dX12_lacks_33 : decode cX12_lacks 33 = .ok (.invokevirtual 95, 3) := by decide +kernel
theorem dX12_lacks_36 : decode cX12_lacks 36 = .ok (.ireturn, 1) := by decide +kernel
theorem dX12_lacks_37 : decode cX12_lacks 37 = .ok (.aload_n 0, 1) := by decide +kernel
theorem dX12_lacks_38 : decode cX12_lacks 38 = .ok (.invokevirtual 318, 3) := by decide +kernel
theorem dX12_lacks_41 : decode cX12_lacks 41 = .ok (.aload_n 0, 1) := by decide +kernel
theorem dX12_lacks_42 : decode cX12_lacks 42 = .ok (.sipush 200, 3) := by decide +kernel
theorem dX12_lacks_45 : decode cX12_lacks 45 = .ok (.invokevirtual 305, 3) := by decide +kernel
theorem dX12_lacks_48 : decode cX12_lacks 48 = .ok (.iconst 0, 1) := by decide +kernel
theorem dX12_lacks_49 : decode cX12_lacks 49 = .ok (.istore_n 3, 1) := by decide +kernel
theorem dX12_lacks_50 : decode cX12_lacks 50 = .ok (.iconst (-1), 1) := by decide +kernel
theorem dX12_lacks_51 : decode cX12_lacks 51 = .ok (.istore 4, 2) := by decide +kernel
theorem dX12_lacks_53 : decode cX12_lacks 53 = .ok (.iconst 0, 1) := by decide +kernel
theorem dX12_lacks_54 : decode cX12_lacks 54 = .ok (.istore 5, 2) := by decide +kernel
theorem dX12_lacks_56 : decode cX12_lacks 56 = .ok (.iconst 0, 1) := by decide +kernel
theorem dX12_lacks_57 : decode cX12_lacks 57 = .ok (.istore 6, 2) := by decide +kernel
theorem dX12_lacks_59 : decode cX12_lacks 59 = .ok (.iconst 0, 1) := by decide +kernel
theorem dX12_lacks_60 : decode cX12_lacks 60 = .ok (.istore 7, 2) := by decide +kernel
theorem dX12_lacks_62 : decode cX12_lacks 62 = .ok (.iload 7, 2) := by decide +kernel
theorem dX12_lacks_64 : decode cX12_lacks 64 = .ok (.sipush 200, 3) := by decide +kernel
theorem dX12_lacks_67 : decode cX12_lacks 67 = .ok (.if_icmp .gt 102, 3) := by decide +kernel
theorem dX12_lacks_70 : decode cX12_lacks 70 = .ok (.aload_n 0, 1) := by decide +kernel
theorem dX12_lacks_71 : decode cX12_lacks 71 = .ok (.getfield 41, 3) := by decide +kernel
theorem dX12_lacks_74 : decode cX12_lacks 74 = .ok (.aload_n 0, 1) := by decide +kernel
theorem dX12_lacks_75 : decode cX12_lacks 75 = .ok (.iconst 0, 1) := by decide +kernel
theorem dX12_lacks_76 : decode cX12_lacks 76 = .ok (.iload 7, 2) := by decide +kernel
theorem dX12_lacks_78 : decode cX12_lacks 78 = .ok (.invokevirtual 302, 3) := by decide +kernel
theorem dX12_lacks_81 : decode cX12_lacks 81 = .ok (.iaload, 1) := by decide +kernel
theorem dX12_lacks_82 : decode cX12_lacks 82 = .ok (.ldc_w 304, 3) := by decide +kernel
theorem dX12_lacks_85 : decode cX12_lacks 85 = .ok (.if_icmp .lt 7, 3) := by decide +kernel
theorem dX12_lacks_88 : decode cX12_lacks 88 = .ok (.iconst 1, 1) := by decide +kernel
theorem dX12_lacks_89 : decode cX12_lacks 89 = .ok (.goto 4, 3) := by decide +kernel
theorem dX12_lacks_92 : decode cX12_lacks 92 = .ok (.iconst 0, 1) := by decide +kernel
theorem dX12_lacks_93 : decode cX12_lacks 93 = .ok (.istore 8, 2) := by decide +kernel
theorem dX12_lacks_95 : decode cX12_lacks 95 = .ok (.iload_n 3, 1) := by decide +kernel
theorem dX12_lacks_96 : decode cX12_lacks 96 = .ok (.iload 8, 2) := by decide +kernel
theorem dX12_lacks_98 : decode cX12_lacks 98 = .ok (.ifCond .eq 7, 3) := by decide +kernel
theorem dX12_lacks_101 : decode cX12_lacks 101 = .ok (.iconst 1, 1) := by decide +kernel
theorem dX12_lacks_102 : decode cX12_lacks 102 = .ok (.goto 4, 3) := by decide +kernel
theorem dX12_lacks_105 : decode cX12_lacks 105 = .ok (.iconst 0, 1) := by decide +kernel
theorem dX12_lacks_106 : decode cX12_lacks 106 = .ok (.iadd, 1) := by decide +kernel
theorem dX12_lacks_107 : decode cX12_lacks 107 = .ok (.istore_n 3, 1) := by decide +kernel
theorem dX12_lacks_108 : decode cX12_lacks 108 = .ok (.iload 8, 2) := by decide +kernel
theorem dX12_lacks_110 : decode cX12_lacks 110 = .ok (.ifCond .eq 25, 3) := by decide +kernel
theorem dX12_lacks_113 : decode cX12_lacks 113 = .ok (.iload 4, 2) := by decide +kernel
theorem dX12_lacks_115 : decode cX12_lacks 115 = .ok (.iconst (-1), 1) := by decide +kernel
theorem dX12_lacks_116 : decode cX12_lacks 116 = .ok (.if_icmp .ne 19, 3) := by decide +kernel
theorem dX12_lacks_119 : decode cX12_lacks 119 = .ok (.aload_n 0, 1) := by decide +kernel
theorem dX12_lacks_120 : decode cX12_lacks 120 = .ok (.getfield 9, 3) := by decide +kernel
theorem dX12_lacks_123 : decode cX12_lacks 123 = .ok (.sipush 351, 3) := by decide +kernel
theorem dX12_lacks_126 : decode cX12_lacks 126 = .ok (.iload_n 1, 1) := by decide +kernel
theorem dX12_lacks_127 : decode cX12_lacks 127 = .ok (.iadd, 1) := by decide +kernel
theorem dX12_lacks_128 : decode cX12_lacks 128 = .ok (.iaload, 1) := by decide +kernel
theorem dX12_lacks_129 : decode cX12_lacks 129 = .ok (.iload 7, 2) := by decide +kernel
theorem dX12_lacks_131 : decode cX12_lacks 131 = .ok (.iadd, 1) := by decide +kernel
theorem dX12_lacks_132 : decode cX12_lacks 132 = .ok (.goto 5, 3) := by decide +kernel
theorem dX12_lacks_135 : decode cX12_lacks 135 = .ok (.iload 4, 2) := by decide +kernel
theorem dX12_lacks_137 : decode cX12_lacks 137 = .ok (.istore 4, 2) := by decide +kernel
theorem dX12_lacks_139 : decode cX12_lacks 139 = .ok (.iload 8, 2) := by decide +kernel
theorem dX12_lacks_141 : decode cX12_lacks 141 = .ok (.ifCond .eq 10, 3) := by decide +kernel
theorem dX12_lacks_144 : decode cX12_lacks 144 = .ok (.iload 5, 2) := by decide +kernel
theorem dX12_lacks_146 : decode cX12_lacks 146 = .ok (.iconst 1, 1) := by decide +kernel
theorem dX12_lacks_147 : decode cX12_lacks 147 = .ok (.iadd, 1) := by decide +kernel
theorem dX12_lacks_148 : decode cX12_lacks 148 = .ok (.goto 4, 3) := by decide +kernel
theorem dX12_lacks_151 : decode cX12_lacks 151 = .ok (.iconst 0, 1) := by decide +kernel
theorem dX12_lacks_152 : decode cX12_lacks 152 = .ok (.istore 5, 2) := by decide +kernel
theorem dX12_lacks_154 : decode cX12_lacks 154 = .ok (.iload 6, 2) := by decide +kernel
theorem dX12_lacks_156 : decode cX12_lacks 156 = .ok (.iload 5, 2) := by decide +kernel
theorem dX12_lacks_158 : decode cX12_lacks 158 = .ok (.invokestatic 123, 3) := by decide +kernel
theorem dX12_lacks_161 : decode cX12_lacks 161 = .ok (.istore 6, 2) := by decide +kernel
theorem dX12_lacks_163 : decode cX12_lacks 163 = .ok (.iinc 7 1, 3) := by decide +kernel
theorem dX12_lacks_166 : decode cX12_lacks 166 = .ok (.goto (-104), 3) := by decide +kernel
theorem dX12_lacks_169 : decode cX12_lacks 169 = .ok (.iload_n 2, 1) := by decide +kernel
theorem dX12_lacks_170 : decode cX12_lacks 170 = .ok (.ifCond .ne 7, 3) := by decide +kernel
theorem dX12_lacks_173 : decode cX12_lacks 173 = .ok (.iload_n 3, 1) := by decide +kernel
theorem dX12_lacks_174 : decode cX12_lacks 174 = .ok (.goto 15, 3) := by decide +kernel
theorem dX12_lacks_177 : decode cX12_lacks 177 = .ok (.iload_n 2, 1) := by decide +kernel
theorem dX12_lacks_178 : decode cX12_lacks 178 = .ok (.iconst 1, 1) := by decide +kernel
theorem dX12_lacks_179 : decode cX12_lacks 179 = .ok (.if_icmp .ne 8, 3) := by decide +kernel
theorem dX12_lacks_182 : decode cX12_lacks 182 = .ok (.iload 4, 2) := by decide +kernel
theorem dX12_lacks_184 : decode cX12_lacks 184 = .ok (.goto 5, 3) := by decide +kernel
theorem dX12_lacks_187 : decode cX12_lacks 187 = .ok (.iload 6, 2) := by decide +kernel
theorem dX12_lacks_189 : decode cX12_lacks 189 = .ok (.ireturn, 1) := by decide +kernel
set_option maxRecDepth 20000 in
theorem ggX12_made_X12_within : GoodIn wsX12_made wsX12_within := goodIn_r _ [8] (by decide +kernel) (by decide +kernel)
set_option maxRecDepth 20000 in
theorem gX12_made_X12_within : GoodIn wsX12_made (va_wsS RX12 83 yX12_within wsX12_within) := goodIn_app (goodIn_of _ (by decide +kernel)) ggX12_made_X12_within
set_option maxRecDepth 20000 in
theorem ggX12_made_X12_fails : GoodIn wsX12_made wsX12_fails := goodIn_r _ [12, 1, 33, 34, 35, 36, 37, 38, 39, 40, 41, 42, 43, 44, 45, 46, 47, 48, 49, 50, 51, 52, 53, 54, 55, 56, 57, 58, 59, 60, 61, 62, 63, 64, 65, 66, 67] (by decide +kernel) (by decide +kernel)
set_option maxRecDepth 20000 in
theorem gX12_made_X12_fails : GoodIn wsX12_made (wsV RX12 95 RX12 yX12_fails wsX12_fails) := goodIn_app (goodIn_of _ (by decide +kernel)) ggX12_made_X12_fails
set_option maxRecDepth 20000 in
theorem ggX12_made_X12_valueOf : GoodIn wsX12_made wsX12_valueOf := goodIn_r _ [16, 17, 18, 19, 7, 20, 4, 21, 22, 23, 24, 25, 26, 27, 28, 5, 6, 8, 29, 30, 31, 32, 33, 34, 35, 36, 37, 38, 39, 40, 41, 42, 43, 44, 45, 46, 47, 48, 49, 50, 51, 52, 53, 54, 55, 56, 57, 58, 59, 60, 61, 62, 63, 64, 65, 66, 67] (by decide +kernel) (by decide +kernel)
set_option maxRecDepth 20000 in
theorem gX12_made_X12_valueOf : GoodIn wsX12_made (wsV RX12 264 RX12 yX12_valueOf wsX12_valueOf) := goodIn_app (goodIn_of _ (by decide +kernel)) ggX12_made_X12_valueOf
theorem dX12_made_0 : decode cX12_made 0 = .ok (.aload_n 0, 1) := by decide +kernel
theorem dX12_made_1 : decode cX12_made 1 = .ok (.iconst 0, 1) := by decide +kernel
theorem dX12_made_2 : decode cX12_made 2 = .ok (.putfield 80, 3) := by decide +kernel
theorem dX12_made_5 : decode cX12_made 5 = .ok (.iload_n 1, 1) := by decide +kernel
theorem dX12_made_6 : decode cX12_made 6 = .ok (.i2l, 1) := by decide +kernel
theorem dX12_made_7 : decode cX12_made 7 = .ok (.lconst 1, 1) := by decide +kernel
theorem dX12_made_8 : decode cX12_made 8 = .ok (.ldc2_w 113, 3) := by decide +kernel
theorem dX12_made_11 : decode cX12_made 11 = .ok (.invokestatic 83, 3) := by decide +kernel
theorem dX12_made_14 : decode cX12_made 14 = .ok (.ifCond .ne 9, 3) := by decide +kernel
theorem dX12_made_17 : decode cX12_made 17 = .ok (.aload_n 0, 1) := by decide +kernel
theorem dX12_made_18 : decode cX12_made 18 = .ok (.iconst 1, 1) := by decide +kernel
theorem dX12_made_19 : decode cX12_made 19 = .ok (.invokevirtual 95, 3) := by decide +kernel
theorem dX12_made_22 : decode cX12_made 22 = .ok (.ireturn, 1) := by decide +kernel
theorem dX12_made_23 : decode cX12_made 23 = .ok (.iconst 0, 1) := by decide +kernel
theorem dX12_made_24 : decode cX12_made 24 = .ok (.istore_n 2, 1) := by decide +kernel
theorem dX12_made_25 : decode cX12_made 25 = .ok (.iload_n 2, 1) := by decide +kernel
theorem dX12_made_26 : decode cX12_made 26 = .ok (.sipush 1000, 3) := by decide +kernel
theorem dX12_made_29 : decode cX12_made 29 = .ok (.if_icmp .gt 96, 3) := by decide +kernel
theorem dX12_made_32 : decode cX12_made 32 = .ok (.aload_n 0, 1) := by decide +kernel
theorem dX12_made_33 : decode cX12_made 33 = .ok (.getfield 50, 3) := by decide +kernel
theorem dX12_made_36 : decode cX12_made 36 = .ok (.iload_n 2, 1) := by decide +kernel
theorem dX12_made_37 : decode cX12_made 37 = .ok (.iload_n 2, 1) := by decide +kernel
theorem dX12_made_38 : decode cX12_made 38 = .ok (.ifCond .ne 7, 3) := by decide +kernel
theorem dX12_made_41 : decode cX12_made 41 = .ok (.iconst 1, 1) := by decide +kernel
theorem dX12_made_42 : decode cX12_made 42 = .ok (.goto 4, 3) := by decide +kernel
theorem dX12_made_45 : decode cX12_made 45 = .ok (.iconst 0, 1) := by decide +kernel
theorem dX12_made_46 : decode cX12_made 46 = .ok (.bastore, 1) := by decide +kernel
theorem dX12_made_47 : decode cX12_made 47 = .ok (.iconst 0, 1) := by decide +kernel
theorem dX12_made_48 : decode cX12_made 48 = .ok (.istore_n 3, 1) := by decide +kernel
theorem dX12_made_49 : decode cX12_made 49 = .ok (.iload_n 3, 1) := by decide +kernel
theorem dX12_made_50 : decode cX12_made 50 = .ok (.aload_n 0, 1) := by decide +kernel
theorem dX12_made_51 : decode cX12_made 51 = .ok (.getfield 9, 3) := by decide +kernel
theorem dX12_made_54 : decode cX12_made 54 = .ok (.iconst 0, 1) := by decide +kernel
theorem dX12_made_55 : decode cX12_made 55 = .ok (.iaload, 1) := by decide +kernel
theorem dX12_made_56 : decode cX12_made 56 = .ok (.if_icmp .ge 47, 3) := by decide +kernel
theorem dX12_made_59 : decode cX12_made 59 = .ok (.aload_n 0, 1) := by decide +kernel
theorem dX12_made_60 : decode cX12_made 60 = .ok (.iload_n 3, 1) := by decide +kernel
theorem dX12_made_61 : decode cX12_made 61 = .ok (.invokevirtual 264, 3) := by decide +kernel
theorem dX12_made_64 : decode cX12_made 64 = .ok (.ifCond .le 33, 3) := by decide +kernel
theorem dX12_made_67 : decode cX12_made 67 = .ok (.aload_n 0, 1) := by decide +kernel
theorem dX12_made_68 : decode cX12_made 68 = .ok (.iload_n 3, 1) := by decide +kernel
theorem dX12_made_69 : decode cX12_made 69 = .ok (.invokevirtual 264, 3) := by decide +kernel
theorem dX12_made_72 : decode cX12_made 72 = .ok (.iload_n 2, 1) := by decide +kernel
theorem dX12_made_73 : decode cX12_made 73 = .ok (.if_icmp .gt 24, 3) := by decide +kernel
theorem dX12_made_76 : decode cX12_made 76 = .ok (.aload_n 0, 1) := by decide +kernel
theorem dX12_made_77 : decode cX12_made 77 = .ok (.getfield 50, 3) := by decide +kernel
theorem dX12_made_80 : decode cX12_made 80 = .ok (.iload_n 2, 1) := by decide +kernel
theorem dX12_made_81 : decode cX12_made 81 = .ok (.dup2, 1) := by decide +kernel
theorem dX12_made_82 : decode cX12_made 82 = .ok (.baload, 1) := by decide +kernel
theorem dX12_made_83 : decode cX12_made 83 = .ok (.aload_n 0, 1) := by decide +kernel
theorem dX12_made_84 : decode cX12_made 84 = .ok (.getfield 50, 3) := by decide +kernel
theorem dX12_made_87 : decode cX12_made 87 = .ok (.iload_n 2, 1) := by decide +kernel
theorem dX12_made_88 : decode cX12_made 88 = .ok (.aload_n 0, 1) := by decide +kernel
theorem dX12_made_89 : decode cX12_made 89 = .ok (.iload_n 3, 1) := by decide +kernel
theorem dX12_made_90 : decode cX12_made 90 = .ok (.invokevirtual 264, 3) := by decide +kernel
theorem dX12_made_93 : decode cX12_made 93 = .ok (.isub, 1) := by decide +kernel
theorem dX12_made_94 : decode cX12_made 94 = .ok (.baload, 1) := by decide +kernel
theorem dX12_made_95 : decode cX12_made 95 = .ok (.ior, 1) := by decide +kernel
theorem dX12_made_96 : decode cX12_made 96 = .ok (.bastore, 1) := by decide +kernel
theorem dX12_made_97 : decode cX12_made 97 = .ok (.iinc 3 1, 3) := by decide +kernel
theorem dX12_made_100 : decode cX12_made 100 = .ok (.goto (-51), 3) := by decide +kernel
theorem dX12_made_103 : decode cX12_made 103 = .ok (.iload_n 2, 1) := by decide +kernel
theorem dX12_made_104 : decode cX12_made 104 = .ok (.iload_n 1, 1) := by decide +kernel
theorem dX12_made_105 : decode cX12_made 105 = .ok (.if_icmp .lt 14, 3) := by decide +kernel
theorem dX12_made_108 : decode cX12_made 108 = .ok (.aload_n 0, 1) := by decide +kernel
theorem dX12_made_109 : decode cX12_made 109 = .ok (.getfield 50, 3) := by decide +kernel
theorem dX12_made_112 : decode cX12_made 112 = .ok (.iload_n 2, 1) := by decide +kernel
theorem dX12_made_113 : decode cX12_made 113 = .ok (.baload, 1) := by decide +kernel
theorem dX12_made_114 : decode cX12_made 114 = .ok (.ifCond .eq 5, 3) := by decide +kernel
theorem dX12_made_117 : decode cX12_made 117 = .ok (.iload_n 2, 1) := by decide +kernel
theorem dX12_made_118 : decode cX12_made 118 = .ok (.ireturn, 1) := by decide +kernel
theorem dX12_made_119 : decode cX12_made 119 = .ok (.iinc 2 1, 3) := by decide +kernel
theorem dX12_made_122 : decode cX12_made 122 = .ok (.goto (-97), 3) := by decide +kernel
theorem dX12_made_125 : decode cX12_made 125 = .ok (.iconst (-1), 1) := by decide +kernel
theorem dX12_made_126 : decode cX12_made 126 = .ok (.ireturn, 1) := by decide +kernel
set_option maxRecDepth 20000 in
theorem ggX12_there_X12_tubeAt : GoodIn wsX12_there wsX12_tubeAt := goodIn_r _ [6] (by decide +kernel) (by decide +kernel)
set_option maxRecDepth 20000 in
theorem gX12_there_X12_tubeAt : GoodIn wsX12_there (wsV RX12 293 RX12 yX12_tubeAt wsX12_tubeAt) := goodIn_app (goodIn_of _ (by decide +kernel)) ggX12_there_X12_tubeAt
theorem dX12_there_0 : decode cX12_there 0 = .ok (.aload_n 0, 1) := by decide +kernel
theorem dX12_there_1 : decode cX12_there 1 = .ok (.getfield 9, 3) := by decide +kernel
theorem dX12_there_4 : decode cX12_there 4 = .ok (.sipush 327, 3) := by decide +kernel
theorem dX12_there_7 : decode cX12_there 7 = .ok (.iload_n 1, 1) := by decide +kernel
theorem dX12_there_8 : decode cX12_there 8 = .ok (.iadd, 1) := by decide +kernel
theorem dX12_there_9 : decode cX12_there 9 = .ok (.iaload, 1) := by decide +kernel
theorem dX12_there_10 : decode cX12_there 10 = .ok (.istore_n 2, 1) := by decide +kernel
theorem dX12_there_11 : decode cX12_there 11 = .ok (.iconst 0, 1) := by decide +kernel
theorem dX12_there_12 : decode cX12_there 12 = .ok (.istore_n 3, 1) := by decide +kernel
theorem dX12_there_13 : decode cX12_there 13 = .ok (.iload_n 3, 1) := by decide +kernel
theorem dX12_there_14 : decode cX12_there 14 = .ok (.aload_n 0, 1) := by decide +kernel
theorem dX12_there_15 : decode cX12_there 15 = .ok (.getfield 9, 3) := by decide +kernel
theorem dX12_there_18 : decode cX12_there 18 = .ok (.iconst 0, 1) := by decide +kernel
theorem dX12_there_19 : decode cX12_there 19 = .ok (.iaload, 1) := by decide +kernel
theorem dX12_there_20 : decode cX12_there 20 = .ok (.if_icmp .ge 58, 3) := by decide +kernel
theorem dX12_there_23 : decode cX12_there 23 = .ok (.iconst 1, 1) := by decide +kernel
theorem dX12_there_24 : decode cX12_there 24 = .ok (.istore 4, 2) := by decide +kernel
theorem dX12_there_26 : decode cX12_there 26 = .ok (.iload 4, 2) := by decide +kernel
theorem dX12_there_28 : decode cX12_there 28 = .ok (.aload_n 0, 1) := by decide +kernel
theorem dX12_there_29 : decode cX12_there 29 = .ok (.getfield 9, 3) := by decide +kernel
theorem dX12_there_32 : decode cX12_there 32 = .ok (.aload_n 0, 1) := by decide +kernel
theorem dX12_there_33 : decode cX12_there 33 = .ok (.iload_n 3, 1) := by decide +kernel
theorem dX12_there_34 : decode cX12_there 34 = .ok (.invokevirtual 293, 3) := by decide +kernel
theorem dX12_there_37 : decode cX12_there 37 = .ok (.iaload, 1) := by decide +kernel
theorem dX12_there_38 : decode cX12_there 38 = .ok (.if_icmp .gt 34, 3) := by decide +kernel
theorem dX12_there_41 : decode cX12_there 41 = .ok (.iload_n 2, 1) := by decide +kernel
theorem dX12_there_42 : decode cX12_there 42 = .ok (.aload_n 0, 1) := by decide +kernel
theorem dX12_there_43 : decode cX12_there 43 = .ok (.getfield 9, 3) := by decide +kernel
theorem dX12_there_46 : decode cX12_there 46 = .ok (.aload_n 0, 1) := by decide +kernel
theorem dX12_there_47 : decode cX12_there 47 = .ok (.iload_n 3, 1) := by decide +kernel
theorem dX12_there_48 : decode cX12_there 48 = .ok (.invokevirtual 293, 3) := by decide +kernel
theorem dX12_there_51 : decode cX12_there 51 = .ok (.iload 4, 2) := by decide +kernel
theorem dX12_there_53 : decode cX12_there 53 = .ok (.iadd, 1) := by decide +kernel
theorem dX12_there_54 : decode cX12_there 54 = .ok (.iaload, 1) := by decide +kernel
theorem dX12_there_55 : decode cX12_there 55 = .ok (.iload_n 1, 1) := by decide +kernel
theorem dX12_there_56 : decode cX12_there 56 = .ok (.if_icmp .ne 7, 3) := by decide +kernel
theorem dX12_there_59 : decode cX12_there 59 = .ok (.iconst 1, 1) := by decide +kernel
theorem dX12_there_60 : decode cX12_there 60 = .ok (.goto 4, 3) := by decide +kernel
theorem dX12_there_63 : decode cX12_there 63 = .ok (.iconst 0, 1) := by decide +kernel
theorem dX12_there_64 : decode cX12_there 64 = .ok (.iadd, 1) := by decide +kernel
theorem dX12_there_65 : decode cX12_there 65 = .ok (.istore_n 2, 1) := by decide +kernel
theorem dX12_there_66 : decode cX12_there 66 = .ok (.iinc 4 1, 3) := by decide +kernel
theorem dX12_there_69 : decode cX12_there 69 = .ok (.goto (-43), 3) := by decide +kernel
theorem dX12_there_72 : decode cX12_there 72 = .ok (.iinc 3 1, 3) := by decide +kernel
theorem dX12_there_75 : decode cX12_there 75 = .ok (.goto (-62), 3) := by decide +kernel
theorem dX12_there_78 : decode cX12_there 78 = .ok (.iload_n 2, 1) := by decide +kernel
theorem dX12_there_79 : decode cX12_there 79 = .ok (.ireturn, 1) := by decide +kernel
theorem dX12_due_0 : decode cX12_due 0 = .ok (.aload_n 0, 1) := by decide +kernel
theorem dX12_due_1 : decode cX12_due 1 = .ok (.getfield 9, 3) := by decide +kernel
theorem dX12_due_4 : decode cX12_due 4 = .ok (.sipush 335, 3) := by decide +kernel
theorem dX12_due_7 : decode cX12_due 7 = .ok (.iload_n 1, 1) := by decide +kernel
theorem dX12_due_8 : decode cX12_due 8 = .ok (.iadd, 1) := by decide +kernel
theorem dX12_due_9 : decode cX12_due 9 = .ok (.iaload, 1) := by decide +kernel
theorem dX12_due_10 : decode cX12_due 10 = .ok (.aload_n 0, 1) := by decide +kernel
theorem dX12_due_11 : decode cX12_due 11 = .ok (.getfield 9, 3) := by decide +kernel
theorem dX12_due_14 : decode cX12_due 14 = .ok (.sipush 343, 3) := by decide +kernel
theorem dX12_due_17 : decode cX12_due 17 = .ok (.iload_n 1, 1) := by decide +kernel
theorem dX12_due_18 : decode cX12_due 18 = .ok (.iadd, 1) := by decide +kernel
theorem dX12_due_19 : decode cX12_due 19 = .ok (.iaload, 1) := by decide +kernel
theorem dX12_due_20 : decode cX12_due 20 = .ok (.iadd, 1) := by decide +kernel
theorem dX12_due_21 : decode cX12_due 21 = .ok (.ireturn, 1) := by decide +kernel
set_option maxRecDepth 20000 in
theorem ggX12_wheel_X12_isSort : GoodIn wsX12_wheel wsX12_isSort := goodIn_r _ [8, 9, 10, 11, 7, 12, 3, 13, 14, 15, 32, 33, 34, 35, 36, 37, 38, 39, 40, 41, 42, 43, 44, 45, 46, 47, 48, 49, 50, 51, 52, 53, 54, 55, 56, 57, 58, 59, 60, 61, 62, 63, 64, 65, 66] (by decide +kernel) (by decide +kernel)
set_option maxRecDepth 20000 in
theorem gX12_wheel_X12_isSort : GoodIn wsX12_wheel (wsV RX12 99 RX12 yX12_isSort wsX12_isSort) := goodIn_app (goodIn_of _ (by decide +kernel)) ggX12_wheel_X12_isSort
set_option maxRecDepth 20000 in
theorem ggX12_wheel_X12_fails : GoodIn wsX12_wheel wsX12_fails := goodIn_r _ [19, 1, 32, 33, 34, 35, 36, 37, 38, 39, 40, 41, 42, 43, 44, 45, 46, 47, 48, 49, 50, 51, 52, 53, 54, 55, 56, 57, 58, 59, 60, 61, 62, 63, 64, 65, 66] (by decide +kernel) (by decide +kernel)
set_option maxRecDepth 20000 in
theorem gX12_wheel_X12_fails : GoodIn wsX12_wheel (wsV RX12 95 RX12 yX12_fails wsX12_fails) := goodIn_app (goodIn_of _ (by decide +kernel)) ggX12_wheel_X12_fails
set_option maxRecDepth 20000 in
theorem ggX12_wheel_X12_within : GoodIn wsX12_wheel wsX12_within := goodIn_r _ [15] (by decide +kernel) (by decide +kernel)
set_option maxRecDepth 20000 in
theorem gX12_wheel_X12_within : GoodIn wsX12_wheel (va_wsS RX12 83 yX12_within wsX12_within) := goodIn_app (goodIn_of _ (by decide +kernel)) ggX12_wheel_X12_within
set_option maxRecDepth 20000 in
theorem ggX12_wheel_X12_due : GoodIn wsX12_wheel wsX12_due := goodIn_r _ [23, 3, 32, 33, 34, 35, 36, 37, 38, 39, 40, 41, 42, 43, 44, 45, 46, 47, 48, 49, 50, 51, 52, 53, 54, 55, 56, 57, 58, 59, 60, 61, 62, 63, 64, 65, 66] (by decide +kernel) (by decide +kernel)
set_option maxRecDepth 20000 in
theorem gX12_wheel_X12_due : GoodIn wsX12_wheel (wsV RX12 326 RX12 yX12_due wsX12_due) := goodIn_app (goodIn_of _ (by decide +kernel)) ggX12_wheel_X12_due
set_option maxRecDepth 20000 in
theorem ggX12_wheel_X12_there : GoodIn wsX12_wheel wsX12_there := goodIn_r _ [27, 3, 28, 29, 30, 7, 31, 32, 33, 34, 35, 36, 37, 38, 39, 40, 41, 42, 43, 44, 45, 46, 47, 48, 49, 50, 51, 52, 53, 54, 55, 56, 57, 58, 59, 60, 61, 62, 63, 64, 65, 66] (by decide +kernel) (by decide +kernel)
set_option maxRecDepth 20000 in
theorem gX12_wheel_X12_there : GoodIn wsX12_wheel (wsV RX12 329 RX12 yX12_there wsX12_there) := goodIn_app (goodIn_of _ (by decide +kernel)) ggX12_wheel_X12_there
theorem dX12_wheel_0 : decode cX12_wheel 0 = .ok (.aload_n 0, 1) := by decide +kernel
theorem dX12_wheel_1 : decode cX12_wheel 1 = .ok (.iconst 0, 1) := by decide +kernel
theorem dX12_wheel_2 : decode cX12_wheel 2 = .ok (.putfield 80, 3) := by decide +kernel
theorem dX12_wheel_5 : decode cX12_wheel 5 = .ok (.aload_n 0, 1) := by decide +kernel
theorem dX12_wheel_6 : decode cX12_wheel 6 = .ok (.iload_n 1, 1) := by decide +kernel
theorem dX12_wheel_7 : decode cX12_wheel 7 = .ok (.invokevirtual 99, 3) := by decide +kernel
theorem dX12_wheel_10 : decode cX12_wheel 10 = .ok (.ifCond .ne 9, 3) := by decide +kernel
theorem dX12_wheel_13 : decode cX12_wheel 13 = .ok (.aload_n 0, 1) := by decide +kernel
theorem dX12_wheel_14 : decode cX12_wheel 14 = .ok (.iconst 1, 1) := by decide +kernel
theorem dX12_wheel_15 : decode cX12_wheel 15 = .ok (.invokevirtual 95, 3) := by decide +kernel
theorem dX12_wheel_18 : decode cX12_wheel 18 = .ok (.ireturn, 1) := by decide +kernel
theorem dX12_wheel_19 : decode cX12_wheel 19 = .ok (.iload_n 2, 1) := by decide +kernel
theorem dX12_wheel_20 : decode cX12_wheel 20 = .ok (.i2l, 1) := by decide +kernel
theorem dX12_wheel_21 : decode cX12_wheel 21 = .ok (.lconst 0, 1) := by decide +kernel
theorem dX12_wheel_22 : decode cX12_wheel 22 = .ok (.ldc2_w 115, 3) := by decide +kernel
theorem dX12_wheel_25 : decode cX12_wheel 25 = .ok (.invokestatic 83, 3) := by decide +kernel
theorem dX12_wheel_28 : decode cX12_wheel 28 = .ok (.ifCond .ne 9, 3) := by decide +kernel
theorem dX12_wheel_31 : decode cX12_wheel 31 = .ok (.aload_n 0, 1) := by decide +kernel
theorem dX12_wheel_32 : decode cX12_wheel 32 = .ok (.iconst 2, 1) := by decide +kernel
theorem dX12_wheel_33 : decode cX12_wheel 33 = .ok (.invokevirtual 95, 3) := by decide +kernel
theorem dX12_wheel_36 : decode cX12_wheel 36 = .ok (.ireturn, 1) := by decide +kernel
theorem dX12_wheel_37 : decode cX12_wheel 37 = .ok (.iload_n 2, 1) := by decide +kernel
theorem dX12_wheel_38 : decode cX12_wheel 38 = .ok (.ifCond .ne 16, 3) := by decide +kernel
theorem dX12_wheel_41 : decode cX12_wheel 41 = .ok (.aload_n 0, 1) := by decide +kernel
theorem dX12_wheel_42 : decode cX12_wheel 42 = .ok (.getfield 9, 3) := by decide +kernel
theorem dX12_wheel_45 : decode cX12_wheel 45 = .ok (.sipush 343, 3) := by decide +kernel
theorem dX12_wheel_48 : decode cX12_wheel 48 = .ok (.iload_n 1, 1) := by decide +kernel
theorem dX12_wheel_49 : decode cX12_wheel 49 = .ok (.iadd, 1) := by decide +kernel
theorem dX12_wheel_50 : decode cX12_wheel 50 = .ok (.iaload, 1) := by decide +kernel
theorem dX12_wheel_51 : decode cX12_wheel 51 = .ok (.goto 40, 3) := by decide +kernel
theorem dX12_wheel_54 : decode cX12_wheel 54 = .ok (.iload_n 2, 1) := by decide +kernel
theorem dX12_wheel_55 : decode cX12_wheel 55 = .ok (.iconst 1, 1) := by decide +kernel
theorem dX12_wheel_56 : decode cX12_wheel 56 = .ok (.if_icmp .ne 11, 3) := by decide +kernel
theorem dX12_wheel_59 : decode cX12_wheel 59 = .ok (.aload_n 0, 1) := by decide +kernel
theorem dX12_wheel_60 : decode cX12_wheel 60 = .ok (.iload_n 1, 1) := by decide +kernel
theorem dX12_wheel_61 : decode cX12_wheel 61 = .ok (.invokevirtual 326, 3) := by decide +kernel
theorem dX12_wheel_64 : decode cX12_wheel 64 = .ok (.goto 27, 3) := by decide +kernel
theorem dX12_wheel_67 : decode cX12_wheel 67 = .ok (.iload_n 2, 1) := by decide +kernel
theorem dX12_wheel_68 : decode cX12_wheel 68 = .ok (.iconst 2, 1) := by decide +kernel
theorem dX12_wheel_69 : decode cX12_wheel 69 = .ok (.if_icmp .ne 11, 3) := by decide +kernel
theorem dX12_wheel_72 : decode cX12_wheel 72 = .ok (.aload_n 0, 1) := by decide +kernel
theorem dX12_wheel_73 : decode cX12_wheel 73 = .ok (.iload_n 1, 1) := by decide +kernel
theorem dX12_wheel_74 : decode cX12_wheel 74 = .ok (.invokevirtual 329, 3) := by decide +kernel
theorem dX12_wheel_77 : decode cX12_wheel 77 = .ok (.goto 14, 3) := by decide +kernel
theorem dX12_wheel_80 : decode cX12_wheel 80 = .ok (.aload_n 0, 1) := by decide +kernel
theorem dX12_wheel_81 : decode cX12_wheel 81 = .ok (.iload_n 1, 1) := by decide +kernel
theorem dX12_wheel_82 : decode cX12_wheel 82 = .ok (.invokevirtual 329, 3) := by decide +kernel
theorem dX12_wheel_85 : decode cX12_wheel 85 = .ok (.aload_n 0, 1) := by decide +kernel
theorem dX12_wheel_86 : decode cX12_wheel 86 = .ok (.iload_n 1, 1) := by decide +kernel
theorem dX12_wheel_87 : decode cX12_wheel 87 = .ok (.invokevirtual 326, 3) := by decide +kernel
theorem dX12_wheel_90 : decode cX12_wheel 90 = .ok (.isub, 1) := by decide +kernel
theorem dX12_wheel_91 : decode cX12_wheel 91 = .ok (.ireturn, 1) := by decide +kernel
set_option maxRecDepth 20000 in
theorem ggX12_cost_X12_within : GoodIn wsX12_cost wsX12_within := goodIn_r _ [7] (by decide +kernel) (by decide +kernel)
set_option maxRecDepth 20000 in
theorem gX12_cost_X12_within : GoodIn wsX12_cost (va_wsS RX12 83 yX12_within wsX12_within) := goodIn_app (goodIn_of _ (by decide +kernel)) ggX12_cost_X12_within
set_option maxRecDepth 20000 in
theorem ggX12_cost_X12_fails : GoodIn wsX12_cost wsX12_fails := goodIn_r _ [11, 1, 17, 18, 19, 20, 21, 22, 23, 24, 25, 26, 27, 28, 29, 30, 31, 32, 33, 34, 35, 36, 37, 38, 39, 40, 41, 42, 43, 44, 45, 46, 47, 48, 49, 50, 51] (by decide +kernel) (by decide +kernel)
set_option maxRecDepth 20000 in
theorem gX12_cost_X12_fails : GoodIn wsX12_cost (wsV RX12 95 RX12 yX12_fails wsX12_fails) := goodIn_app (goodIn_of _ (by decide +kernel)) ggX12_cost_X12_fails
set_option maxRecDepth 20000 in
theorem ggX12_cost_X12_becomes : GoodIn wsX12_cost wsX12_becomes := goodIn_r _ [15, 16, 17, 18, 19, 20, 21, 22, 23, 24, 25, 26, 27, 28, 29, 30, 31, 32, 33, 34, 35, 36, 37, 38, 39, 40, 41, 42, 43, 44, 45, 46, 47, 48, 49, 50, 51] (by decide +kernel) (by decide +kernel)
set_option maxRecDepth 20000 in
theorem gX12_cost_X12_becomes : GoodIn wsX12_cost (wsV RX12 109 RX12 yX12_becomes wsX12_becomes) := goodIn_app (goodIn_of _ (by decide +kernel)) ggX12_cost_X12_becomes
theorem dX12_cost_0 : decode cX12_cost 0 = .ok (.aload_n 0, 1) := by decide +kernel
theorem dX12_cost_1 : decode cX12_cost 1 = .ok (.iconst 0, 1) := by decide +kernel
theorem dX12_cost_2 : decode cX12_cost 2 = .ok (.putfield 80, 3) := by decide +kernel
theorem dX12_cost_5 : decode cX12_cost 5 = .ok (.iload_n 1, 1) := by decide +kernel
theorem dX12_cost_6 : decode cX12_cost 6 = .ok (.i2l, 1) := by decide +kernel
theorem dX12_cost_7 : decode cX12_cost 7 = .ok (.lconst 0, 1) := by decide +kernel
theorem dX12_cost_8 : decode cX12_cost 8 = .ok (.ldc2_w 115, 3) := by decide +kernel
theorem dX12_cost_11 : decode cX12_cost 11 = .ok (.invokestatic 83, 3) := by decide +kernel
theorem dX12_cost_14 : decode cX12_cost 14 = .ok (.ifCond .ne 9, 3) := by decide +kernel
theorem dX12_cost_17 : decode cX12_cost 17 = .ok (.aload_n 0, 1) := by decide +kernel
theorem dX12_cost_18 : decode cX12_cost 18 = .ok (.iconst 1, 1) := by decide +kernel
theorem dX12_cost_19 : decode cX12_cost 19 = .ok (.invokevirtual 95, 3) := by decide +kernel
theorem dX12_cost_22 : decode cX12_cost 22 = .ok (.ireturn, 1) := by decide +kernel
theorem dX12_cost_23 : decode cX12_cost 23 = .ok (.iload_n 2, 1) := by decide +kernel
theorem dX12_cost_24 : decode cX12_cost 24 = .ok (.i2l, 1) := by decide +kernel
theorem dX12_cost_25 : decode cX12_cost 25 = .ok (.lconst 0, 1) := by decide +kernel
theorem dX12_cost_26 : decode cX12_cost 26 = .ok (.ldc2_w 93, 3) := by decide +kernel
theorem dX12_cost_29 : decode cX12_cost 29 = .ok (.invokestatic 83, 3) := by decide +kernel
theorem dX12_cost_32 : decode cX12_cost 32 = .ok (.ifCond .eq 15, 3) := by decide +kernel
theorem dX12_cost_35 : decode cX12_cost 35 = .ok (.aload_n 0, 1) := by decide +kernel
theorem dX12_cost_36 : decode cX12_cost 36 = .ok (.bipush 11, 2) := by decide +kernel
theorem dX12_cost_38 : decode cX12_cost 38 = .ok (.iload_n 1, 1) := by decide +kernel
theorem dX12_cost_39 : decode cX12_cost 39 = .ok (.iadd, 1) := by decide +kernel
theorem dX12_cost_40 : decode cX12_cost 40 = .ok (.iload_n 2, 1) := by decide +kernel
theorem dX12_cost_41 : decode cX12_cost 41 = .ok (.invokevirtual 109, 3) := by decide +kernel
theorem dX12_cost_44 : decode cX12_cost 44 = .ok (.goto 8, 3) := by decide +kernel
theorem dX12_cost_47 : decode cX12_cost 47 = .ok (.aload_n 0, 1) := by decide +kernel
theorem dX12_cost_48 : decode cX12_cost 48 = .ok (.iconst 2, 1) := by decide +kernel
theorem dX12_cost_49 : decode cX12_cost 49 = .ok (.invokevirtual 95, 3) := by decide +kernel
theorem dX12_cost_52 : decode cX12_cost 52 = .ok (.ireturn, 1) := by decide +kernel
set_option maxRecDepth 20000 in
theorem ggX12_slugs_X12_tally : GoodIn wsX12_slugs wsX12_tally := goodIn_r _ [17, 4, 18, 19, 20, 21, 16, 22, 1, 6, 7, 8, 9, 23, 24, 25, 26, 27, 28, 29, 30, 10, 11, 12, 31, 32, 33, 34, 35, 36, 37, 38, 39, 40, 41, 42, 43, 44, 45, 46, 47, 48, 49, 50, 51, 52, 53, 54, 55, 56, 57, 58, 59, 60, 61, 62, 63, 64, 65, 66, 67, 68, 69, 70, 71, 72, 73, 74, 75, 76, 77, 78, 79, 80, 81, 82, 83, 84, 85, 86, 87, 88, 89, 90, 91, 92, 93, 94, 95, 96, 97, 98, 99, 100, 101, 102, 103] (by decide +kernel) (by decide +kernel)
set_option maxRecDepth 20000 in
theorem gX12_slugs_X12_tally : GoodIn wsX12_slugs (wsV RX12 261 RX12 yX12_tally wsX12_tally) := goodIn_app (goodIn_of _ (by decide +kernel)) ggX12_slugs_X12_tally
theorem dX12_slugs_0 : decode cX12_slugs 0 = .ok (.aload_n 0, 1) := by decide +kernel
theorem dX12_slugs_1 : decode cX12_slugs 1 = .ok (.getfield 9, 3) := by decide +kernel
theorem dX12_slugs_4 : decode cX12_slugs 4 = .ok (.iconst 0, 1) := by decide +kernel
theorem dX12_slugs_5 : decode cX12_slugs 5 = .ok (.iaload, 1) := by decide +kernel
theorem dX12_slugs_6 : decode cX12_slugs 6 = .ok (.istore_n 1, 1) := by decide +kernel
theorem dX12_slugs_7 : decode cX12_slugs 7 = .ok (.iconst 0, 1) := by decide +kernel
theorem dX12_slugs_8 : decode cX12_slugs 8 = .ok (.istore_n 2, 1) := by decide +kernel
theorem dX12_slugs_9 : decode cX12_slugs 9 = .ok (.iload_n 2, 1) := by decide +kernel
theorem dX12_slugs_10 : decode cX12_slugs 10 = .ok (.iload_n 1, 1) := by decide +kernel
theorem dX12_slugs_11 : decode cX12_slugs 11 = .ok (.if_icmp .ge 73, 3) := by decide +kernel
theorem dX12_slugs_14 : decode cX12_slugs 14 = .ok (.aload_n 0, 1) := by decide +kernel
theorem dX12_slugs_15 : decode cX12_slugs 15 = .ok (.getfield 56, 3) := by decide +kernel
theorem dX12_slugs_18 : decode cX12_slugs 18 = .ok (.iload_n 2, 1) := by decide +kernel
theorem dX12_slugs_19 : decode cX12_slugs 19 = .ok (.iconst 0, 1) := by decide +kernel
theorem dX12_slugs_20 : decode cX12_slugs 20 = .ok (.iastore, 1) := by decide +kernel
theorem dX12_slugs_21 : decode cX12_slugs 21 = .ok (.aload_n 0, 1) := by decide +kernel
theorem dX12_slugs_22 : decode cX12_slugs 22 = .ok (.getfield 53, 3) := by decide +kernel
theorem dX12_slugs_25 : decode cX12_slugs 25 = .ok (.iload_n 2, 1) := by decide +kernel
theorem dX12_slugs_26 : decode cX12_slugs 26 = .ok (.iaload, 1) := by decide +kernel
theorem dX12_slugs_27 : decode cX12_slugs 27 = .ok (.ifCond .gt 6, 3) := by decide +kernel
theorem dX12_slugs_30 : decode cX12_slugs 30 = .ok (.goto 48, 3) := by decide +kernel
theorem dX12_slugs_33 : decode cX12_slugs 33 = .ok (.aload_n 0, 1) := by decide +kernel
