theorem dX3_init_0 : decode cX3_init 0 = .ok (.aload_n 0, 1) := by decide +kernel
theorem dX3_init_1 : decode cX3_init 1 = .ok (.invokespecial 3, 3) := by decide +kernel
theorem dX3_init_4 : decode cX3_init 4 = .ok (.aload_n 0, 1) := by decide +kernel
theorem dX3_init_5 : decode cX3_init 5 = .ok (.bipush 8, 2) := by decide +kernel
theorem dX3_init_7 : decode cX3_init 7 = .ok (.newarray .int, 2) := by decide +kernel
theorem dX3_init_9 : decode cX3_init 9 = .ok (.putfield 9, 3) := by decide +kernel
theorem dX3_init_12 : decode cX3_init 12 = .ok (.aload_n 0, 1) := by decide +kernel
theorem dX3_init_13 : decode cX3_init 13 = .ok (.bipush 8, 2) := by decide +kernel
theorem dX3_init_15 : decode cX3_init 15 = .ok (.newarray .int, 2) := by decide +kernel
theorem dX3_init_17 : decode cX3_init 17 = .ok (.putfield 15, 3) := by decide +kernel
theorem dX3_init_20 : decode cX3_init 20 = .ok (.aload_n 0, 1) := by decide +kernel
theorem dX3_init_21 : decode cX3_init 21 = .ok (.aload_n 1, 1) := by decide +kernel
theorem dX3_init_22 : decode cX3_init 22 = .ok (.putfield 18, 3) := by decide +kernel
theorem dX3_init_25 : decode cX3_init 25 = .ok (.aload_n 0, 1) := by decide +kernel
theorem dX3_init_26 : decode cX3_init 26 = .ok (.aload_n 2, 1) := by decide +kernel
theorem dX3_init_27 : decode cX3_init 27 = .ok (.putfield 22, 3) := by decide +kernel
theorem dX3_init_30 : decode cX3_init 30 = .ok (.return_, 1) := by decide +kernel
theorem dX3_weigh_0 : decode cX3_weigh 0 = .ok (.iconst 0, 1) := by decide +kernel
theorem dX3_weigh_1 : decode cX3_weigh 1 = .ok (.istore_n 1, 1) := by decide +kernel
theorem dX3_weigh_2 : decode cX3_weigh 2 = .ok (.iconst 0, 1) := by decide +kernel
theorem dX3_weigh_3 : decode cX3_weigh 3 = .ok (.istore_n 2, 1) := by decide +kernel
theorem dX3_weigh_4 : decode cX3_weigh 4 = .ok (.iconst 0, 1) := by decide +kernel
theorem dX3_weigh_5 : decode cX3_weigh 5 = .ok (.istore_n 3, 1) := by decide +kernel
theorem dX3_weigh_6 : decode cX3_weigh 6 = .ok (.iload_n 3, 1) := by decide +kernel
theorem dX3_weigh_7 : decode cX3_weigh 7 = .ok (.aload_n 0, 1) := by decide +kernel
theorem dX3_weigh_8 : decode cX3_weigh 8 = .ok (.getfield 18, 3) := by decide +kernel
theorem dX3_weigh_11 : decode cX3_weigh 11 = .ok (.getfield 26, 3) := by decide +kernel
theorem dX3_weigh_14 : decode cX3_weigh 14 = .ok (.getfield 32, 3) := by decide +kernel
theorem dX3_weigh_17 : decode cX3_weigh 17 = .ok (.if_icmp .ge 53, 3) := by decide +kernel
theorem dX3_weigh_20 : decode cX3_weigh 20 = .ok (.aload_n 0, 1) := by decide +kernel
theorem dX3_weigh_21 : decode cX3_weigh 21 = .ok (.getfield 9, 3) := by decide +kernel
theorem dX3_weigh_24 : decode cX3_weigh 24 = .ok (.iload_n 3, 1) := by decide +kernel
theorem dX3_weigh_25 : decode cX3_weigh 25 = .ok (.aload_n 0, 1) := by decide +kernel
theorem dX3_weigh_26 : decode cX3_weigh 26 = .ok (.getfield 18, 3) := by decide +kernel
theorem dX3_weigh_29 : decode cX3_weigh 29 = .ok (.getfield 38, 3) := by decide +kernel
theorem dX3_weigh_32 : decode cX3_weigh 32 = .ok (.iload_n 3, 1) := by decide +kernel
theorem dX3_weigh_33 : decode cX3_weigh 33 = .ok (.invokevirtual 42, 3) := by decide +kernel
theorem dX3_weigh_36 : decode cX3_weigh 36 = .ok (.iastore, 1) := by decide +kernel
theorem dX3_weigh_37 : decode cX3_weigh 37 = .ok (.iload_n 1, 1) := by decide +kernel
theorem dX3_weigh_38 : decode cX3_weigh 38 = .ok (.iconst 0, 1) := by decide +kernel
theorem dX3_weigh_39 : decode cX3_weigh 39 = .ok (.aload_n 0, 1) := by decide +kernel
theorem dX3_weigh_40 : decode cX3_weigh 40 = .ok (.getfield 9, 3) := by decide +kernel
theorem dX3_weigh_43 : decode cX3_weigh 43 = .ok (.iload_n 3, 1) := by decide +kernel
theorem dX3_weigh_44 : decode cX3_weigh 44 = .ok (.iaload, 1) := by decide +kernel
theorem dX3_weigh_45 : decode cX3_weigh 45 = .ok (.invokestatic 47, 3) := by decide +kernel
theorem dX3_weigh_48 : decode cX3_weigh 48 = .ok (.iadd, 1) := by decide +kernel
theorem dX3_weigh_49 : decode cX3_weigh 49 = .ok (.istore_n 1, 1) := by decide +kernel
theorem dX3_weigh_50 : decode cX3_weigh 50 = .ok (.iload_n 2, 1) := by decide +kernel
theorem dX3_weigh_51 : decode cX3_weigh 51 = .ok (.iconst 0, 1) := by decide +kernel
theorem dX3_weigh_52 : decode cX3_weigh 52 = .ok (.aload_n 0, 1) := by decide +kernel
theorem dX3_weigh_53 : decode cX3_weigh 53 = .ok (.getfield 9, 3) := by decide +kernel
theorem dX3_weigh_56 : decode cX3_weigh 56 = .ok (.iload_n 3, 1) := by decide +kernel
theorem dX3_weigh_57 : decode cX3_weigh 57 = .ok (.iaload, 1) := by decide +kernel
theorem dX3_weigh_58 : decode cX3_weigh 58 = .ok (.ineg, 1) := by decide +kernel
theorem dX3_weigh_59 : decode cX3_weigh 59 = .ok (.invokestatic 47, 3) := by decide +kernel
theorem dX3_weigh_62 : decode cX3_weigh 62 = .ok (.iadd, 1) := by decide +kernel
theorem dX3_weigh_63 : decode cX3_weigh 63 = .ok (.istore_n 2, 1) := by decide +kernel
theorem dX3_weigh_64 : decode cX3_weigh 64 = .ok (.iinc 3 1, 3) := by decide +kernel
theorem dX3_weigh_67 : decode cX3_weigh 67 = .ok (.goto (-61), 3) := by decide +kernel
theorem dX3_weigh_70 : decode cX3_weigh 70 = .ok (.aload_n 0, 1) := by decide +kernel
theorem dX3_weigh_71 : decode cX3_weigh 71 = .ok (.getfield 18, 3) := by decide +kernel
theorem dX3_weigh_74 : decode cX3_weigh 74 = .ok (.getfield 38, 3) := by decide +kernel
theorem dX3_weigh_77 : decode cX3_weigh 77 = .ok (.getfield 53, 3) := by decide +kernel
theorem dX3_weigh_80 : decode cX3_weigh 80 = .ok (.astore_n 3, 1) := by decide +kernel
theorem dX3_weigh_81 : decode cX3_weigh 81 = .ok (.aload_n 3, 1) := by decide +kernel
theorem dX3_weigh_82 : decode cX3_weigh 82 = .ok (.iconst 1, 1) := by decide +kernel
theorem dX3_weigh_83 : decode cX3_weigh 83 = .ok (.iaload, 1) := by decide +kernel
theorem dX3_weigh_84 : decode cX3_weigh 84 = .ok (.aload_n 3, 1) := by decide +kernel
theorem dX3_weigh_85 : decode cX3_weigh 85 = .ok (.iconst 2, 1) := by decide +kernel
theorem dX3_weigh_86 : decode cX3_weigh 86 = .ok (.iaload, 1) := by decide +kernel
theorem dX3_weigh_87 : decode cX3_weigh 87 = .ok (.invokestatic 56, 3) := by decide +kernel
theorem dX3_weigh_90 : decode cX3_weigh 90 = .ok (.istore 4, 2) := by decide +kernel
theorem dX3_weigh_92 : decode cX3_weigh 92 = .ok (.aload_n 3, 1) := by decide +kernel
theorem dX3_weigh_93 : decode cX3_weigh 93 = .ok (.iconst 3, 1) := by decide +kernel
theorem dX3_weigh_94 : decode cX3_weigh 94 = .ok (.iaload, 1) := by decide +kernel
theorem dX3_weigh_95 : decode cX3_weigh 95 = .ok (.aload_n 3, 1) := by decide +kernel
theorem dX3_weigh_96 : decode cX3_weigh 96 = .ok (.iconst 0, 1) := by decide +kernel
theorem dX3_weigh_97 : decode cX3_weigh 97 = .ok (.iaload, 1) := by decide +kernel
theorem dX3_weigh_98 : decode cX3_weigh 98 = .ok (.isub, 1) := by decide +kernel
theorem dX3_weigh_99 : decode cX3_weigh 99 = .ok (.iload 4, 2) := by decide +kernel
theorem dX3_weigh_101 : decode cX3_weigh 101 = .ok (.isub, 1) := by decide +kernel
theorem dX3_weigh_102 : decode cX3_weigh 102 = .ok (.istore 5, 2) := by decide +kernel
theorem dX3_weigh_104 : decode cX3_weigh 104 = .ok (.iload_n 1, 1) := by decide +kernel
theorem dX3_weigh_105 : decode cX3_weigh 105 = .ok (.ifCond .eq 7, 3) := by decide +kernel
theorem dX3_weigh_108 : decode cX3_weigh 108 = .ok (.iload_n 2, 1) := by decide +kernel
theorem dX3_weigh_109 : decode cX3_weigh 109 = .ok (.ifCond .ne 7, 3) := by decide +kernel
theorem dX3_weigh_112 : decode cX3_weigh 112 = .ok (.iconst 0, 1) := by decide +kernel
theorem dX3_weigh_113 : decode cX3_weigh 113 = .ok (.goto 7, 3) := by decide +kernel
theorem dX3_weigh_116 : decode cX3_weigh 116 = .ok (.aload_n 0, 1) := by decide +kernel
theorem dX3_weigh_117 : decode cX3_weigh 117 = .ok (.invokevirtual 59, 3) := by decide +kernel
theorem dX3_weigh_120 : decode cX3_weigh 120 = .ok (.istore 6, 2) := by decide +kernel
theorem dX3_weigh_122 : decode cX3_weigh 122 = .ok (.aload_n 0, 1) := by decide +kernel
theorem dX3_weigh_123 : decode cX3_weigh 123 = .ok (.iload 5, 2) := by decide +kernel
theorem dX3_weigh_125 : decode cX3_weigh 125 = .ok (.ifCond .ge 8, 3) := by decide +kernel
theorem dX3_weigh_128 : decode cX3_weigh 128 = .ok (.iload 6, 2) := by decide +kernel
theorem dX3_weigh_130 : decode cX3_weigh 130 = .ok (.goto 4, 3) := by decide +kernel
theorem dX3_weigh_133 : decode cX3_weigh 133 = .ok (.iconst 0, 1) := by decide +kernel
theorem dX3_weigh_134 : decode cX3_weigh 134 = .ok (.putfield 63, 3) := by decide +kernel
theorem dX3_weigh_137 : decode cX3_weigh 137 = .ok (.aload_n 0, 1) := by decide +kernel
theorem dX3_weigh_138 : decode cX3_weigh 138 = .ok (.iload 5, 2) := by decide +kernel
theorem dX3_weigh_140 : decode cX3_weigh 140 = .ok (.ifCond .gt 8, 3) := by decide +kernel
theorem dX3_weigh_143 : decode cX3_weigh 143 = .ok (.iload 6, 2) := by decide +kernel
theorem dX3_weigh_145 : decode cX3_weigh 145 = .ok (.goto 4, 3) := by decide +kernel
theorem dX3_weigh_148 : decode cX3_weigh 148 = .ok (.iconst 0, 1) := by decide +kernel
theorem dX3_weigh_149 : decode cX3_weigh 149 = .ok (.putfield 66, 3) := by decide +kernel
theorem dX3_weigh_152 : decode cX3_weigh 152 = .ok (.aload_n 0, 1) := by decide +kernel
theorem dX3_weigh_153 : decode cX3_weigh 153 = .ok (.iload_n 1, 1) := by decide +kernel
theorem dX3_weigh_154 : decode cX3_weigh 154 = .ok (.aload_n 3, 1) := by decide +kernel
theorem dX3_weigh_155 : decode cX3_weigh 155 = .ok (.iconst 0, 1) := by decide +kernel
theorem dX3_weigh_156 : decode cX3_weigh 156 = .ok (.iaload, 1) := by decide +kernel
theorem dX3_weigh_157 : decode cX3_weigh 157 = .ok (.imul, 1) := by decide +kernel
theorem dX3_weigh_158 : decode cX3_weigh 158 = .ok (.iload_n 2, 1) := by decide +kernel
theorem dX3_weigh_159 : decode cX3_weigh 159 = .ok (.iload 4, 2) := by decide +kernel
theorem dX3_weigh_161 : decode cX3_weigh 161 = .ok (.imul, 1) := by decide +kernel
theorem dX3_weigh_162 : decode cX3_weigh 162 = .ok (.iadd, 1) := by decide +kernel
theorem dX3_weigh_163 : decode cX3_weigh 163 = .ok (.aload_n 0, 1) := by decide +kernel
theorem dX3_weigh_164 : decode cX3_weigh 164 = .ok (.getfield 63, 3) := by decide +kernel
theorem dX3_weigh_167 : decode cX3_weigh 167 = .ok (.iload 5, 2) := by decide +kernel
theorem dX3_weigh_169 : decode cX3_weigh 169 = .ok (.imul, 1) := by decide +kernel
theorem dX3_weigh_170 : decode cX3_weigh 170 = .ok (.iadd, 1) := by decide +kernel
theorem dX3_weigh_171 : decode cX3_weigh 171 = .ok (.putfield 69, 3) := by decide +kernel
theorem dX3_weigh_174 : decode cX3_weigh 174 = .ok (.return_, 1) := by decide +kernel
theorem dX3_mostPairs_0 : decode cX3_mostPairs 0 = .ok (.aload_n 0, 1) := by decide +kernel
theorem dX3_mostPairs_1 : decode cX3_mostPairs 1 = .ok (.getfield 22, 3) := by decide +kernel
theorem dX3_mostPairs_4 : decode cX3_mostPairs 4 = .ok (.invokevirtual 72, 3) := by decide +kernel
theorem dX3_mostPairs_7 : decode cX3_mostPairs 7 = .ok (.iconst 0, 1) := by decide +kernel
theorem dX3_mostPairs_8 : decode cX3_mostPairs 8 = .ok (.istore_n 1, 1) := by decide +kernel
theorem dX3_mostPairs_9 : decode cX3_mostPairs 9 = .ok (.iload_n 1, 1) := by decide +kernel
theorem dX3_mostPairs_10 : decode cX3_mostPairs 10 = .ok (.aload_n 0, 1) := by decide +kernel
theorem dX3_mostPairs_11 : decode cX3_mostPairs 11 = .ok (.getfield 18, 3) := by decide +kernel
theorem dX3_mostPairs_14 : decode cX3_mostPairs 14 = .ok (.getfield 26, 3) := by decide +kernel
theorem dX3_mostPairs_17 : decode cX3_mostPairs 17 = .ok (.getfield 32, 3) := by decide +kernel
theorem dX3_mostPairs_20 : decode cX3_mostPairs 20 = .ok (.if_icmp .ge 33, 3) := by decide +kernel
theorem dX3_mostPairs_23 : decode cX3_mostPairs 23 = .ok (.aload_n 0, 1) := by decide +kernel
theorem dX3_mostPairs_24 : decode cX3_mostPairs 24 = .ok (.getfield 15, 3) := by decide +kernel
theorem dX3_mostPairs_27 : decode cX3_mostPairs 27 = .ok (.iload_n 1, 1) := by decide +kernel
theorem dX3_mostPairs_28 : decode cX3_mostPairs 28 = .ok (.aload_n 0, 1) := by decide +kernel
theorem dX3_mostPairs_29 : decode cX3_mostPairs 29 = .ok (.getfield 9, 3) := by decide +kernel
theorem dX3_mostPairs_32 : decode cX3_mostPairs 32 = .ok (.iload_n 1, 1) := by decide +kernel
theorem dX3_mostPairs_33 : decode cX3_mostPairs 33 = .ok (.iaload, 1) := by decide +kernel
theorem dX3_mostPairs_34 : decode cX3_mostPairs 34 = .ok (.ifCond .le 11, 3) := by decide +kernel
theorem dX3_mostPairs_37 : decode cX3_mostPairs 37 = .ok (.aload_n 0, 1) := by decide +kernel
theorem dX3_mostPairs_38 : decode cX3_mostPairs 38 = .ok (.iload_n 1, 1) := by decide +kernel
theorem dX3_mostPairs_39 : decode cX3_mostPairs 39 = .ok (.invokevirtual 77, 3) := by decide +kernel
theorem dX3_mostPairs_42 : decode cX3_mostPairs 42 = .ok (.goto 4, 3) := by decide +kernel
theorem dX3_mostPairs_45 : decode cX3_mostPairs 45 = .ok (.iconst 0, 1) := by decide +kernel
theorem dX3_mostPairs_46 : decode cX3_mostPairs 46 = .ok (.iastore, 1) := by decide +kernel
theorem dX3_mostPairs_47 : decode cX3_mostPairs 47 = .ok (.iinc 1 1, 3) := by decide +kernel
theorem dX3_mostPairs_50 : decode cX3_mostPairs 50 = .ok (.goto (-41), 3) := by decide +kernel
theorem dX3_mostPairs_53 : decode cX3_mostPairs 53 = .ok (.aload_n 0, 1) := by decide +kernel
theorem dX3_mostPairs_54 : decode cX3_mostPairs 54 = .ok (.iconst 0, 1) := by decide +kernel
theorem dX3_mostPairs_55 : decode cX3_mostPairs 55 = .ok (.invokevirtual 80, 3) := by decide +kernel
theorem dX3_mostPairs_58 : decode cX3_mostPairs 58 = .ok (.istore_n 1, 1) := by decide +kernel
theorem dX3_mostPairs_59 : decode cX3_mostPairs 59 = .ok (.iconst 1, 1) := by decide +kernel
theorem dX3_mostPairs_60 : decode cX3_mostPairs 60 = .ok (.istore_n 2, 1) := by decide +kernel
theorem dX3_mostPairs_61 : decode cX3_mostPairs 61 = .ok (.iload_n 2, 1) := by decide +kernel
theorem dX3_mostPairs_62 : decode cX3_mostPairs 62 = .ok (.iconst 1, 1) := by decide +kernel
theorem dX3_mostPairs_63 : decode cX3_mostPairs 63 = .ok (.aload_n 0, 1) := by decide +kernel
theorem dX3_mostPairs_64 : decode cX3_mostPairs 64 = .ok (.getfield 18, 3) := by decide +kernel
theorem dX3_mostPairs_67 : decode cX3_mostPairs 67 = .ok (.getfield 26, 3) := by decide +kernel
theorem dX3_mostPairs_70 : decode cX3_mostPairs 70 = .ok (.getfield 32, 3) := by decide +kernel
theorem dX3_mostPairs_73 : decode cX3_mostPairs 73 = .ok (.ishl, 1) := by decide +kernel
theorem dX3_mostPairs_74 : decode cX3_mostPairs 74 = .ok (.if_icmp .ge 19, 3) := by decide +kernel
theorem dX3_mostPairs_77 : decode cX3_mostPairs 77 = .ok (.iload_n 1, 1) := by decide +kernel
theorem dX3_mostPairs_78 : decode cX3_mostPairs 78 = .ok (.aload_n 0, 1) := by decide +kernel
theorem dX3_mostPairs_79 : decode cX3_mostPairs 79 = .ok (.iload_n 2, 1) := by decide +kernel
theorem dX3_mostPairs_80 : decode cX3_mostPairs 80 = .ok (.invokevirtual 80, 3) := by decide +kernel
theorem dX3_mostPairs_83 : decode cX3_mostPairs 83 = .ok (.invokestatic 56, 3) := by decide +kernel
theorem dX3_mostPairs_86 : decode cX3_mostPairs 86 = .ok (.istore_n 1, 1) := by decide +kernel
theorem dX3_mostPairs_87 : decode cX3_mostPairs 87 = .ok (.iinc 2 1, 3) := by decide +kernel
theorem dX3_mostPairs_90 : decode cX3_mostPairs 90 = .ok (.goto (-29), 3) := by decide +kernel
theorem dX3_mostPairs_93 : decode cX3_mostPairs 93 = .ok (.iload_n 1, 1) := by decide +kernel
theorem dX3_mostPairs_94 : decode cX3_mostPairs 94 = .ok (.ireturn, 1) := by decide +kernel
theorem dX3_passingSet_0 : decode cX3_passingSet 0 = .ok (.aload_n 0, 1) := by decide +kernel
theorem dX3_passingSet_1 : decode cX3_passingSet 1 = .ok (.getfield 22, 3) := by decide +kernel
theorem dX3_passingSet_4 : decode cX3_passingSet 4 = .ok (.iload_n 1, 1) := by decide +kernel
theorem dX3_passingSet_5 : decode cX3_passingSet 5 = .ok (.invokevirtual 83, 3) := by decide +kernel
theorem dX3_passingSet_8 : decode cX3_passingSet 8 = .ok (.iconst 0, 1) := by decide +kernel
theorem dX3_passingSet_9 : decode cX3_passingSet 9 = .ok (.istore_n 2, 1) := by decide +kernel
theorem dX3_passingSet_10 : decode cX3_passingSet 10 = .ok (.iconst 0, 1) := by decide +kernel
theorem dX3_passingSet_11 : decode cX3_passingSet 11 = .ok (.istore_n 3, 1) := by decide +kernel
theorem dX3_passingSet_12 : decode cX3_passingSet 12 = .ok (.iload_n 3, 1) := by decide +kernel
theorem dX3_passingSet_13 : decode cX3_passingSet 13 = .ok (.aload_n 0, 1) := by decide +kernel
theorem dX3_passingSet_14 : decode cX3_passingSet 14 = .ok (.getfield 18, 3) := by decide +kernel
theorem dX3_passingSet_17 : decode cX3_passingSet 17 = .ok (.getfield 26, 3) := by decide +kernel
theorem dX3_passingSet_20 : decode cX3_passingSet 20 = .ok (.getfield 32, 3) := by decide +kernel
theorem dX3_passingSet_23 : decode cX3_passingSet 23 = .ok (.if_icmp .ge 31, 3) := by decide +kernel
theorem dX3_passingSet_26 : decode cX3_passingSet 26 = .ok (.aload_n 0, 1) := by decide +kernel
theorem dX3_passingSet_27 : decode cX3_passingSet 27 = .ok (.getfield 22, 3) := by decide +kernel
theorem dX3_passingSet_30 : decode cX3_passingSet 30 = .ok (.getfield 87, 3) := by decide +kernel
theorem dX3_passingSet_33 : decode cX3_passingSet 33 = .ok (.iload_n 3, 1) := by decide +kernel
theorem dX3_passingSet_34 : decode cX3_passingSet 34 = .ok (.iconst 1, 1) := by decide +kernel
theorem dX3_passingSet_35 : decode cX3_passingSet 35 = .ok (.iadd, 1) := by decide +kernel
theorem dX3_passingSet_36 : decode cX3_passingSet 36 = .ok (.laload, 1) := by decide +kernel
theorem dX3_passingSet_37 : decode cX3_passingSet 37 = .ok (.lconst 0, 1) := by decide +kernel
theorem dX3_passingSet_38 : decode cX3_passingSet 38 = .ok (.lcmp, 1) := by decide +kernel
theorem dX3_passingSet_39 : decode cX3_passingSet 39 = .ok (.ifCond .le 9, 3) := by decide +kernel
theorem dX3_passingSet_42 : decode cX3_passingSet 42 = .ok (.iload_n 2, 1) := by decide +kernel
theorem dX3_passingSet_43 : decode cX3_passingSet 43 = .ok (.iconst 1, 1) := by decide +kernel
theorem dX3_passingSet_44 : decode cX3_passingSet 44 = .ok (.iload_n 3, 1) := by decide +kernel
theorem dX3_passingSet_45 : decode cX3_passingSet 45 = .ok (.ishl, 1) := by decide +kernel
theorem dX3_passingSet_46 : decode cX3_passingSet 46 = .ok (.ior, 1) := by decide +kernel
theorem dX3_passingSet_47 : decode cX3_passingSet 47 = .ok (.istore_n 2, 1) := by decide +kernel
theorem dX3_passingSet_48 : decode cX3_passingSet 48 = .ok (.iinc 3 1, 3) := by decide +kernel
theorem dX3_passingSet_51 : decode cX3_passingSet 51 = .ok (.goto (-39), 3) := by decide +kernel
theorem dX3_passingSet_54 : decode cX3_passingSet 54 = .ok (.iload_n 2, 1) := by decide +kernel
theorem dX3_passingSet_55 : decode cX3_passingSet 55 = .ok (.ireturn, 1) := by decide +kernel
theorem dX3_cutOf_0 : decode cX3_cutOf 0 = .ok (.iconst 0, 1) := by decide +kernel
theorem dX3_cutOf_1 : decode cX3_cutOf 1 = .ok (.istore_n 2, 1) := by decide +kernel
theorem dX3_cutOf_2 : decode cX3_cutOf 2 = .ok (.iconst 0, 1) := by decide +kernel
theorem dX3_cutOf_3 : decode cX3_cutOf 3 = .ok (.istore_n 3, 1) := by decide +kernel
theorem dX3_cutOf_4 : decode cX3_cutOf 4 = .ok (.iconst 0, 1) := by decide +kernel
theorem dX3_cutOf_5 : decode cX3_cutOf 5 = .ok (.istore 4, 2) := by decide +kernel
theorem dX3_cutOf_7 : decode cX3_cutOf 7 = .ok (.iload 4, 2) := by decide +kernel
theorem dX3_cutOf_9 : decode cX3_cutOf 9 = .ok (.aload_n 0, 1) := by decide +kernel
theorem dX3_cutOf_10 : decode cX3_cutOf 10 = .ok (.getfield 18, 3) := by decide +kernel
theorem dX3_cutOf_13 : decode cX3_cutOf 13 = .ok (.getfield 26, 3) := by decide +kernel
theorem dX3_cutOf_16 : decode cX3_cutOf 16 = .ok (.getfield 32, 3) := by decide +kernel
theorem dX3_cutOf_19 : decode cX3_cutOf 19 = .ok (.if_icmp .ge 46, 3) := by decide +kernel
theorem dX3_cutOf_22 : decode cX3_cutOf 22 = .ok (.iload_n 1, 1) := by decide +kernel
theorem dX3_cutOf_23 : decode cX3_cutOf 23 = .ok (.iload 4, 2) := by decide +kernel
theorem dX3_cutOf_25 : decode cX3_cutOf 25 = .ok (.ishr, 1) := by decide +kernel
theorem dX3_cutOf_26 : decode cX3_cutOf 26 = .ok (.iconst 1, 1) := by decide +kernel
theorem dX3_cutOf_27 : decode cX3_cutOf 27 = .ok (.iand, 1) := by decide +kernel
theorem dX3_cutOf_28 : decode cX3_cutOf 28 = .ok (.iconst 1, 1) := by decide +kernel
theorem dX3_cutOf_29 : decode cX3_cutOf 29 = .ok (.if_icmp .ne 16, 3) := by decide +kernel
theorem dX3_cutOf_32 : decode cX3_cutOf 32 = .ok (.iload_n 3, 1) := by decide +kernel
theorem dX3_cutOf_33 : decode cX3_cutOf 33 = .ok (.aload_n 0, 1) := by decide +kernel
theorem dX3_cutOf_34 : decode cX3_cutOf 34 = .ok (.getfield 15, 3) := by decide +kernel
theorem dX3_cutOf_37 : decode cX3_cutOf 37 = .ok (.iload 4, 2) := by decide +kernel
theorem dX3_cutOf_39 : decode cX3_cutOf 39 = .ok (.iaload, 1) := by decide +kernel
theorem dX3_cutOf_40 : decode cX3_cutOf 40 = .ok (.ior, 1) := by decide +kernel
theorem dX3_cutOf_41 : decode cX3_cutOf 41 = .ok (.istore_n 3, 1) := by decide +kernel
theorem dX3_cutOf_42 : decode cX3_cutOf 42 = .ok (.goto 17, 3) := by decide +kernel
theorem dX3_cutOf_45 : decode cX3_cutOf 45 = .ok (.iload_n 2, 1) := by decide +kernel
theorem dX3_cutOf_46 : decode cX3_cutOf 46 = .ok (.iconst 0, 1) := by decide +kernel
theorem dX3_cutOf_47 : decode cX3_cutOf 47 = .ok (.aload_n 0, 1) := by decide +kernel
theorem dX3_cutOf_48 : decode cX3_cutOf 48 = .ok (.getfield 9, 3) := by decide +kernel
theorem dX3_cutOf_51 : decode cX3_cutOf 51 = .ok (.iload 4, 2) := by decide +kernel
theorem dX3_cutOf_53 : decode cX3_cutOf 53 = .ok (.iaload, 1) := by decide +kernel
theorem dX3_cutOf_54 : decode cX3_cutOf 54 = .ok (.invokestatic 47, 3) := by decide +kernel
theorem dX3_cutOf_57 : decode cX3_cutOf 57 = .ok (.iadd, 1) := by decide +kernel
theorem dX3_cutOf_58 : decode cX3_cutOf 58 = .ok (.istore_n 2, 1) := by decide +kernel
theorem dX3_cutOf_59 : decode cX3_cutOf 59 = .ok (.iinc 4 1, 3) := by decide +kernel
theorem dX3_cutOf_62 : decode cX3_cutOf 62 = .ok (.goto (-55), 3) := by decide +kernel
theorem dX3_cutOf_65 : decode cX3_cutOf 65 = .ok (.iconst 0, 1) := by decide +kernel
theorem dX3_cutOf_66 : decode cX3_cutOf 66 = .ok (.istore 4, 2) := by decide +kernel
theorem dX3_cutOf_68 : decode cX3_cutOf 68 = .ok (.iload 4, 2) := by decide +kernel
theorem dX3_cutOf_70 : decode cX3_cutOf 70 = .ok (.aload_n 0, 1) := by decide +kernel
theorem dX3_cutOf_71 : decode cX3_cutOf 71 = .ok (.getfield 18, 3) := by decide +kernel
theorem dX3_cutOf_74 : decode cX3_cutOf 74 = .ok (.getfield 26, 3) := by decide +kernel
theorem dX3_cutOf_77 : decode cX3_cutOf 77 = .ok (.getfield 32, 3) := by decide +kernel
theorem dX3_cutOf_80 : decode cX3_cutOf 80 = .ok (.if_icmp .ge 34, 3) := by decide +kernel
theorem dX3_cutOf_83 : decode cX3_cutOf 83 = .ok (.iload_n 3, 1) := by decide +kernel
theorem dX3_cutOf_84 : decode cX3_cutOf 84 = .ok (.iload 4, 2) := by decide +kernel
theorem dX3_cutOf_86 : decode cX3_cutOf 86 = .ok (.ishr, 1) := by decide +kernel
theorem dX3_cutOf_87 : decode cX3_cutOf 87 = .ok (.iconst 1, 1) := by decide +kernel
theorem dX3_cutOf_88 : decode cX3_cutOf 88 = .ok (.iand, 1) := by decide +kernel
theorem dX3_cutOf_89 : decode cX3_cutOf 89 = .ok (.iconst 1, 1) := by decide +kernel
theorem dX3_cutOf_90 : decode cX3_cutOf 90 = .ok (.if_icmp .ne 18, 3) := by decide +kernel
theorem dX3_cutOf_93 : decode cX3_cutOf 93 = .ok (.iload_n 2, 1) := by decide +kernel
theorem dX3_cutOf_94 : decode cX3_cutOf 94 = .ok (.iconst 0, 1) := by decide +kernel
theorem dX3_cutOf_95 : decode cX3_cutOf 95 = .ok (.aload_n 0, 1) := by decide +kernel
theorem dX3_cutOf_96 : decode cX3_cutOf 96 = .ok (.getfield 9, 3) := by decide +kernel
theorem dX3_cutOf_99 : decode cX3_cutOf 99 = .ok (.iload 4, 2) := by decide +kernel
theorem dX3_cutOf_101 : decode cX3_cutOf 101 = .ok (.iaload, 1) := by decide +kernel
theorem dX3_cutOf_102 : decode cX3_cutOf 102 = .ok (.ineg, 1) := by decide +kernel
theorem dX3_cutOf_103 : decode cX3_cutOf 103 = .ok (.invokestatic 47, 3) := by decide +kernel
theorem dX3_cutOf_106 : decode cX3_cutOf 106 = .ok (.iadd, 1) := by decide +kernel
theorem dX3_cutOf_107 : decode cX3_cutOf 107 = .ok (.istore_n 2, 1) := by decide +kernel
theorem dX3_cutOf_108 : decode cX3_cutOf 108 = .ok (.iinc 4 1, 3) := by decide +kernel
theorem dX3_cutOf_111 : decode cX3_cutOf 111 = .ok (.goto (-43), 3) := by decide +kernel
theorem dX3_cutOf_114 : decode cX3_cutOf 114 = .ok (.iload_n 2, 1) := by decide +kernel
theorem dX3_cutOf_115 : decode cX3_cutOf 115 = .ok (.ireturn, 1) := by decide +kernel
