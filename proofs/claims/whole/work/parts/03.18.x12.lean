theorem dX12_init_0 : decode cX12_init 0 = .ok (.aload_n 0, 1) := by decide +kernel
theorem dX12_init_1 : decode cX12_init 1 = .ok (.invokespecial 1, 3) := by decide +kernel
theorem dX12_init_4 : decode cX12_init 4 = .ok (.aload_n 0, 1) := by decide +kernel
theorem dX12_init_5 : decode cX12_init 5 = .ok (.sipush 615, 3) := by decide +kernel
theorem dX12_init_8 : decode cX12_init 8 = .ok (.newarray .int, 2) := by decide +kernel
theorem dX12_init_10 : decode cX12_init 10 = .ok (.putfield 9, 3) := by decide +kernel
theorem dX12_init_13 : decode cX12_init 13 = .ok (.aload_n 0, 1) := by decide +kernel
theorem dX12_init_14 : decode cX12_init 14 = .ok (.sipush 1845, 3) := by decide +kernel
theorem dX12_init_17 : decode cX12_init 17 = .ok (.newarray .int, 2) := by decide +kernel
theorem dX12_init_19 : decode cX12_init 19 = .ok (.putfield 13, 3) := by decide +kernel
theorem dX12_init_22 : decode cX12_init 22 = .ok (.aload_n 0, 1) := by decide +kernel
theorem dX12_init_23 : decode cX12_init 23 = .ok (.iconst 3, 1) := by decide +kernel
theorem dX12_init_24 : decode cX12_init 24 = .ok (.newarray .boolean, 2) := by decide +kernel
theorem dX12_init_26 : decode cX12_init 26 = .ok (.putfield 16, 3) := by decide +kernel
theorem dX12_init_29 : decode cX12_init 29 = .ok (.aload_n 0, 1) := by decide +kernel
theorem dX12_init_30 : decode cX12_init 30 = .ok (.sipush 400, 3) := by decide +kernel
theorem dX12_init_33 : decode cX12_init 33 = .ok (.newarray .int, 2) := by decide +kernel
theorem dX12_init_35 : decode cX12_init 35 = .ok (.putfield 20, 3) := by decide +kernel
theorem dX12_init_38 : decode cX12_init 38 = .ok (.aload_n 0, 1) := by decide +kernel
theorem dX12_init_39 : decode cX12_init 39 = .ok (.bipush 56, 2) := by decide +kernel
theorem dX12_init_41 : decode cX12_init 41 = .ok (.newarray .int, 2) := by decide +kernel
theorem dX12_init_43 : decode cX12_init 43 = .ok (.putfield 23, 3) := by decide +kernel
theorem dX12_init_46 : decode cX12_init 46 = .ok (.aload_n 0, 1) := by decide +kernel
theorem dX12_init_47 : decode cX12_init 47 = .ok (.iconst (-1), 1) := by decide +kernel
theorem dX12_init_48 : decode cX12_init 48 = .ok (.putfield 26, 3) := by decide +kernel
theorem dX12_init_51 : decode cX12_init 51 = .ok (.aload_n 0, 1) := by decide +kernel
theorem dX12_init_52 : decode cX12_init 52 = .ok (.iconst (-1), 1) := by decide +kernel
theorem dX12_init_53 : decode cX12_init 53 = .ok (.putfield 30, 3) := by decide +kernel
theorem dX12_init_56 : decode cX12_init 56 = .ok (.aload_n 0, 1) := by decide +kernel
theorem dX12_init_57 : decode cX12_init 57 = .ok (.bipush 101, 2) := by decide +kernel
theorem dX12_init_59 : decode cX12_init 59 = .ok (.newarray .int, 2) := by decide +kernel
theorem dX12_init_61 : decode cX12_init 61 = .ok (.putfield 33, 3) := by decide +kernel
theorem dX12_init_64 : decode cX12_init 64 = .ok (.aload_n 0, 1) := by decide +kernel
theorem dX12_init_65 : decode cX12_init 65 = .ok (.bipush 9, 2) := by decide +kernel
theorem dX12_init_67 : decode cX12_init 67 = .ok (.newarray .long, 2) := by decide +kernel
theorem dX12_init_69 : decode cX12_init 69 = .ok (.putfield 36, 3) := by decide +kernel
theorem dX12_init_72 : decode cX12_init 72 = .ok (.aload_n 0, 1) := by decide +kernel
theorem dX12_init_73 : decode cX12_init 73 = .ok (.ldc 40, 2) := by decide +kernel
theorem dX12_init_75 : decode cX12_init 75 = .ok (.newarray .int, 2) := by decide +kernel
theorem dX12_init_77 : decode cX12_init 77 = .ok (.putfield 41, 3) := by decide +kernel
theorem dX12_init_80 : decode cX12_init 80 = .ok (.aload_n 0, 1) := by decide +kernel
theorem dX12_init_81 : decode cX12_init 81 = .ok (.bipush 8, 2) := by decide +kernel
theorem dX12_init_83 : decode cX12_init 83 = .ok (.newarray .int, 2) := by decide +kernel
theorem dX12_init_85 : decode cX12_init 85 = .ok (.putfield 44, 3) := by decide +kernel
theorem dX12_init_88 : decode cX12_init 88 = .ok (.aload_n 0, 1) := by decide +kernel
theorem dX12_init_89 : decode cX12_init 89 = .ok (.bipush 8, 2) := by decide +kernel
theorem dX12_init_91 : decode cX12_init 91 = .ok (.newarray .int, 2) := by decide +kernel
theorem dX12_init_93 : decode cX12_init 93 = .ok (.putfield 47, 3) := by decide +kernel
theorem dX12_init_96 : decode cX12_init 96 = .ok (.aload_n 0, 1) := by decide +kernel
theorem dX12_init_97 : decode cX12_init 97 = .ok (.sipush 1001, 3) := by decide +kernel
theorem dX12_init_100 : decode cX12_init 100 = .ok (.newarray .boolean, 2) := by decide +kernel
theorem dX12_init_102 : decode cX12_init 102 = .ok (.putfield 50, 3) := by decide +kernel
theorem dX12_init_105 : decode cX12_init 105 = .ok (.aload_n 0, 1) := by decide +kernel
theorem dX12_init_106 : decode cX12_init 106 = .ok (.bipush 8, 2) := by decide +kernel
theorem dX12_init_108 : decode cX12_init 108 = .ok (.newarray .int, 2) := by decide +kernel
theorem dX12_init_110 : decode cX12_init 110 = .ok (.putfield 53, 3) := by decide +kernel
theorem dX12_init_113 : decode cX12_init 113 = .ok (.aload_n 0, 1) := by decide +kernel
theorem dX12_init_114 : decode cX12_init 114 = .ok (.bipush 8, 2) := by decide +kernel
theorem dX12_init_116 : decode cX12_init 116 = .ok (.newarray .int, 2) := by decide +kernel
theorem dX12_init_118 : decode cX12_init 118 = .ok (.putfield 56, 3) := by decide +kernel
theorem dX12_init_121 : decode cX12_init 121 = .ok (.aload_n 0, 1) := by decide +kernel
theorem dX12_init_122 : decode cX12_init 122 = .ok (.bipush 32, 2) := by decide +kernel
theorem dX12_init_124 : decode cX12_init 124 = .ok (.newarray .int, 2) := by decide +kernel
theorem dX12_init_126 : decode cX12_init 126 = .ok (.putfield 59, 3) := by decide +kernel
theorem dX12_init_129 : decode cX12_init 129 = .ok (.aload_n 0, 1) := by decide +kernel
theorem dX12_init_130 : decode cX12_init 130 = .ok (.bipush 8, 2) := by decide +kernel
theorem dX12_init_132 : decode cX12_init 132 = .ok (.newarray .int, 2) := by decide +kernel
theorem dX12_init_134 : decode cX12_init 134 = .ok (.putfield 62, 3) := by decide +kernel
theorem dX12_init_137 : decode cX12_init 137 = .ok (.aload_n 0, 1) := by decide +kernel
theorem dX12_init_138 : decode cX12_init 138 = .ok (.bipush 8, 2) := by decide +kernel
theorem dX12_init_140 : decode cX12_init 140 = .ok (.newarray .int, 2) := by decide +kernel
theorem dX12_init_142 : decode cX12_init 142 = .ok (.putfield 65, 3) := by decide +kernel
theorem dX12_init_145 : decode cX12_init 145 = .ok (.aload_n 0, 1) := by decide +kernel
theorem dX12_init_146 : decode cX12_init 146 = .ok (.bipush 36, 2) := by decide +kernel
theorem dX12_init_148 : decode cX12_init 148 = .ok (.newarray .int, 2) := by decide +kernel
theorem dX12_init_150 : decode cX12_init 150 = .ok (.putfield 68, 3) := by decide +kernel
theorem dX12_init_153 : decode cX12_init 153 = .ok (.aload_n 0, 1) := by decide +kernel
theorem dX12_init_154 : decode cX12_init 154 = .ok (.iconst 4, 1) := by decide +kernel
theorem dX12_init_155 : decode cX12_init 155 = .ok (.newarray .int, 2) := by decide +kernel
theorem dX12_init_157 : decode cX12_init 157 = .ok (.dup, 1) := by decide +kernel
theorem dX12_init_158 : decode cX12_init 158 = .ok (.iconst 0, 1) := by decide +kernel
theorem dX12_init_159 : decode cX12_init 159 = .ok (.iconst (-1), 1) := by decide +kernel
theorem dX12_init_160 : decode cX12_init 160 = .ok (.iastore, 1) := by decide +kernel
theorem dX12_init_161 : decode cX12_init 161 = .ok (.dup, 1) := by decide +kernel
theorem dX12_init_162 : decode cX12_init 162 = .ok (.iconst 1, 1) := by decide +kernel
theorem dX12_init_163 : decode cX12_init 163 = .ok (.iconst (-1), 1) := by decide +kernel
theorem dX12_init_164 : decode cX12_init 164 = .ok (.iastore, 1) := by decide +kernel
theorem dX12_init_165 : decode cX12_init 165 = .ok (.dup, 1) := by decide +kernel
theorem dX12_init_166 : decode cX12_init 166 = .ok (.iconst 2, 1) := by decide +kernel
theorem dX12_init_167 : decode cX12_init 167 = .ok (.iconst (-1), 1) := by decide +kernel
theorem dX12_init_168 : decode cX12_init 168 = .ok (.iastore, 1) := by decide +kernel
theorem dX12_init_169 : decode cX12_init 169 = .ok (.dup, 1) := by decide +kernel
theorem dX12_init_170 : decode cX12_init 170 = .ok (.iconst 3, 1) := by decide +kernel
theorem dX12_init_171 : decode cX12_init 171 = .ok (.iconst (-1), 1) := by decide +kernel
theorem dX12_init_172 : decode cX12_init 172 = .ok (.iastore, 1) := by decide +kernel
theorem dX12_init_173 : decode cX12_init 173 = .ok (.putfield 71, 3) := by decide +kernel
theorem dX12_init_176 : decode cX12_init 176 = .ok (.aload_n 0, 1) := by decide +kernel
theorem dX12_init_177 : decode cX12_init 177 = .ok (.iconst 4, 1) := by decide +kernel
theorem dX12_init_178 : decode cX12_init 178 = .ok (.newarray .int, 2) := by decide +kernel
theorem dX12_init_180 : decode cX12_init 180 = .ok (.putfield 74, 3) := by decide +kernel
theorem dX12_init_183 : decode cX12_init 183 = .ok (.aload_n 0, 1) := by decide +kernel
theorem dX12_init_184 : decode cX12_init 184 = .ok (.bipush 80, 2) := by decide +kernel
theorem dX12_init_186 : decode cX12_init 186 = .ok (.newarray .long, 2) := by decide +kernel
theorem dX12_init_188 : decode cX12_init 188 = .ok (.putfield 77, 3) := by decide +kernel
theorem dX12_init_191 : decode cX12_init 191 = .ok (.aload_n 0, 1) := by decide +kernel
theorem dX12_init_192 : decode cX12_init 192 = .ok (.getfield 9, 3) := by decide +kernel
theorem dX12_init_195 : decode cX12_init 195 = .ok (.bipush 10, 2) := by decide +kernel
theorem dX12_init_197 : decode cX12_init 197 = .ok (.bipush 10, 2) := by decide +kernel
theorem dX12_init_199 : decode cX12_init 199 = .ok (.iastore, 1) := by decide +kernel
theorem dX12_init_200 : decode cX12_init 200 = .ok (.iconst 0, 1) := by decide +kernel
theorem dX12_init_201 : decode cX12_init 201 = .ok (.istore_n 1, 1) := by decide +kernel
theorem dX12_init_202 : decode cX12_init 202 = .ok (.iload_n 1, 1) := by decide +kernel
theorem dX12_init_203 : decode cX12_init 203 = .ok (.iconst 4, 1) := by decide +kernel
theorem dX12_init_204 : decode cX12_init 204 = .ok (.if_icmp .ge 19, 3) := by decide +kernel
theorem dX12_init_207 : decode cX12_init 207 = .ok (.aload_n 0, 1) := by decide +kernel
theorem dX12_init_208 : decode cX12_init 208 = .ok (.getfield 9, 3) := by decide +kernel
theorem dX12_init_211 : decode cX12_init 211 = .ok (.bipush 11, 2) := by decide +kernel
theorem dX12_init_213 : decode cX12_init 213 = .ok (.iload_n 1, 1) := by decide +kernel
theorem dX12_init_214 : decode cX12_init 214 = .ok (.iadd, 1) := by decide +kernel
theorem dX12_init_215 : decode cX12_init 215 = .ok (.iconst 1, 1) := by decide +kernel
theorem dX12_init_216 : decode cX12_init 216 = .ok (.iastore, 1) := by decide +kernel
theorem dX12_init_217 : decode cX12_init 217 = .ok (.iinc 1 1, 3) := by decide +kernel
theorem dX12_init_220 : decode cX12_init 220 = .ok (.goto (-18), 3) := by decide +kernel
theorem dX12_init_223 : decode cX12_init 223 = .ok (.return_, 1) := by decide +kernel
theorem dX12_thrown_0 : decode cX12_thrown 0 = .ok (.aload_n 0, 1) := by decide +kernel
theorem dX12_thrown_1 : decode cX12_thrown 1 = .ok (.getfield 80, 3) := by decide +kernel
theorem dX12_thrown_4 : decode cX12_thrown 4 = .ok (.ireturn, 1) := by decide +kernel
theorem dX12_fails_0 : decode cX12_fails 0 = .ok (.aload_n 0, 1) := by decide +kernel
theorem dX12_fails_1 : decode cX12_fails 1 = .ok (.iload_n 1, 1) := by decide +kernel
theorem dX12_fails_2 : decode cX12_fails 2 = .ok (.putfield 80, 3) := by decide +kernel
theorem dX12_fails_5 : decode cX12_fails 5 = .ok (.iconst 0, 1) := by decide +kernel
theorem dX12_fails_6 : decode cX12_fails 6 = .ok (.ireturn, 1) := by decide +kernel
theorem dX12_within_0 : decode cX12_within 0 = .ok (.lload_n 0, 1) := by decide +kernel
theorem dX12_within_1 : decode cX12_within 1 = .ok (.lload_n 2, 1) := by decide +kernel
theorem dX12_within_2 : decode cX12_within 2 = .ok (.lcmp, 1) := by decide +kernel
theorem dX12_within_3 : decode cX12_within 3 = .ok (.ifCond .lt 14, 3) := by decide +kernel
theorem dX12_within_6 : decode cX12_within 6 = .ok (.lload_n 0, 1) := by decide +kernel
theorem dX12_within_7 : decode cX12_within 7 = .ok (.lload 4, 2) := by decide +kernel
theorem dX12_within_9 : decode cX12_within 9 = .ok (.lcmp, 1) := by decide +kernel
theorem dX12_within_10 : decode cX12_within 10 = .ok (.ifCond .gt 7, 3) := by decide +kernel
theorem dX12_within_13 : decode cX12_within 13 = .ok (.iconst 1, 1) := by decide +kernel
theorem dX12_within_14 : decode cX12_within 14 = .ok (.goto 4, 3) := by decide +kernel
theorem dX12_within_17 : decode cX12_within 17 = .ok (.iconst 0, 1) := by decide +kernel
theorem dX12_within_18 : decode cX12_within 18 = .ok (.ireturn, 1) := by decide +kernel
theorem dX12_is_0 : decode cX12_is 0 = .ok (.iload_n 2, 1) := by decide +kernel
theorem dX12_is_1 : decode cX12_is 1 = .ok (.i2l, 1) := by decide +kernel
theorem dX12_is_2 : decode cX12_is 2 = .ok (.lconst 0, 1) := by decide +kernel
theorem dX12_is_3 : decode cX12_is 3 = .ok (.aload_n 0, 1) := by decide +kernel
theorem dX12_is_4 : decode cX12_is 4 = .ok (.getfield 9, 3) := by decide +kernel
theorem dX12_is_7 : decode cX12_is 7 = .ok (.iload_n 1, 1) := by decide +kernel
theorem dX12_is_8 : decode cX12_is 8 = .ok (.iaload, 1) := by decide +kernel
theorem dX12_is_9 : decode cX12_is 9 = .ok (.iconst 1, 1) := by decide +kernel
theorem dX12_is_10 : decode cX12_is 10 = .ok (.isub, 1) := by decide +kernel
theorem dX12_is_11 : decode cX12_is 11 = .ok (.i2l, 1) := by decide +kernel
theorem dX12_is_12 : decode cX12_is 12 = .ok (.invokestatic 83, 3) := by decide +kernel
theorem dX12_is_15 : decode cX12_is 15 = .ok (.ireturn, 1) := by decide +kernel
theorem dX12_isSort_0 : decode cX12_isSort 0 = .ok (.aload_n 0, 1) := by decide +kernel
theorem dX12_isSort_1 : decode cX12_isSort 1 = .ok (.iconst 0, 1) := by decide +kernel
theorem dX12_isSort_2 : decode cX12_isSort 2 = .ok (.iload_n 1, 1) := by decide +kernel
theorem dX12_isSort_3 : decode cX12_isSort 3 = .ok (.invokevirtual 87, 3) := by decide +kernel
theorem dX12_isSort_6 : decode cX12_isSort 6 = .ok (.ireturn, 1) := by decide +kernel
theorem dX12_of_0 : decode cX12_of 0 = .ok (.aload_n 0, 1) := by decide +kernel
theorem dX12_of_1 : decode cX12_of 1 = .ok (.getfield 9, 3) := by decide +kernel
theorem dX12_of_4 : decode cX12_of 4 = .ok (.bipush 15, 2) := by decide +kernel
theorem dX12_of_6 : decode cX12_of 6 = .ok (.bipush 11, 2) := by decide +kernel
theorem dX12_of_8 : decode cX12_of 8 = .ok (.iload_n 1, 1) := by decide +kernel
theorem dX12_of_9 : decode cX12_of 9 = .ok (.imul, 1) := by decide +kernel
theorem dX12_of_10 : decode cX12_of 10 = .ok (.iadd, 1) := by decide +kernel
theorem dX12_of_11 : decode cX12_of 11 = .ok (.iload_n 2, 1) := by decide +kernel
theorem dX12_of_12 : decode cX12_of 12 = .ok (.iadd, 1) := by decide +kernel
theorem dX12_of_13 : decode cX12_of 13 = .ok (.iaload, 1) := by decide +kernel
theorem dX12_of_14 : decode cX12_of 14 = .ok (.ireturn, 1) := by decide +kernel
theorem dX12_becomes_0 : decode cX12_becomes 0 = .ok (.aload_n 0, 1) := by decide +kernel
theorem dX12_becomes_1 : decode cX12_becomes 1 = .ok (.getfield 9, 3) := by decide +kernel
theorem dX12_becomes_4 : decode cX12_becomes 4 = .ok (.iload_n 1, 1) := by decide +kernel
theorem dX12_becomes_5 : decode cX12_becomes 5 = .ok (.iaload, 1) := by decide +kernel
theorem dX12_becomes_6 : decode cX12_becomes 6 = .ok (.istore_n 3, 1) := by decide +kernel
theorem dX12_becomes_7 : decode cX12_becomes 7 = .ok (.aload_n 0, 1) := by decide +kernel
theorem dX12_becomes_8 : decode cX12_becomes 8 = .ok (.getfield 9, 3) := by decide +kernel
theorem dX12_becomes_11 : decode cX12_becomes 11 = .ok (.iload_n 1, 1) := by decide +kernel
theorem dX12_becomes_12 : decode cX12_becomes 12 = .ok (.iload_n 2, 1) := by decide +kernel
theorem dX12_becomes_13 : decode cX12_becomes 13 = .ok (.iastore, 1) := by decide +kernel
theorem dX12_becomes_14 : decode cX12_becomes 14 = .ok (.iload_n 3, 1) := by decide +kernel
theorem dX12_becomes_15 : decode cX12_becomes 15 = .ok (.ireturn, 1) := by decide +kernel
theorem dX12_sort_0 : decode cX12_sort 0 = .ok (.aload_n 0, 1) := by decide +kernel
theorem dX12_sort_1 : decode cX12_sort 1 = .ok (.iconst 0, 1) := by decide +kernel
theorem dX12_sort_2 : decode cX12_sort 2 = .ok (.putfield 80, 3) := by decide +kernel
theorem dX12_sort_5 : decode cX12_sort 5 = .ok (.iload_n 1, 1) := by decide +kernel
theorem dX12_sort_6 : decode cX12_sort 6 = .ok (.i2l, 1) := by decide +kernel
theorem dX12_sort_7 : decode cX12_sort 7 = .ok (.lconst 0, 1) := by decide +kernel
theorem dX12_sort_8 : decode cX12_sort 8 = .ok (.ldc2_w 91, 3) := by decide +kernel
theorem dX12_sort_11 : decode cX12_sort 11 = .ok (.invokestatic 83, 3) := by decide +kernel
theorem dX12_sort_14 : decode cX12_sort 14 = .ok (.ifCond .eq 28, 3) := by decide +kernel
theorem dX12_sort_17 : decode cX12_sort 17 = .ok (.iload_n 2, 1) := by decide +kernel
theorem dX12_sort_18 : decode cX12_sort 18 = .ok (.i2l, 1) := by decide +kernel
theorem dX12_sort_19 : decode cX12_sort 19 = .ok (.lconst 0, 1) := by decide +kernel
theorem dX12_sort_20 : decode cX12_sort 20 = .ok (.ldc2_w 93, 3) := by decide +kernel
theorem dX12_sort_23 : decode cX12_sort 23 = .ok (.invokestatic 83, 3) := by decide +kernel
theorem dX12_sort_26 : decode cX12_sort 26 = .ok (.ifCond .eq 16, 3) := by decide +kernel
theorem dX12_sort_29 : decode cX12_sort 29 = .ok (.iload_n 3, 1) := by decide +kernel
theorem dX12_sort_30 : decode cX12_sort 30 = .ok (.i2l, 1) := by decide +kernel
theorem dX12_sort_31 : decode cX12_sort 31 = .ok (.iload_n 2, 1) := by decide +kernel
theorem dX12_sort_32 : decode cX12_sort 32 = .ok (.i2l, 1) := by decide +kernel
theorem dX12_sort_33 : decode cX12_sort 33 = .ok (.ldc2_w 93, 3) := by decide +kernel
theorem dX12_sort_36 : decode cX12_sort 36 = .ok (.invokestatic 83, 3) := by decide +kernel
theorem dX12_sort_39 : decode cX12_sort 39 = .ok (.ifCond .ne 9, 3) := by decide +kernel
theorem dX12_sort_42 : decode cX12_sort 42 = .ok (.aload_n 0, 1) := by decide +kernel
theorem dX12_sort_43 : decode cX12_sort 43 = .ok (.iconst 1, 1) := by decide +kernel
theorem dX12_sort_44 : decode cX12_sort 44 = .ok (.invokevirtual 95, 3) := by decide +kernel
theorem dX12_sort_47 : decode cX12_sort 47 = .ok (.ireturn, 1) := by decide +kernel
theorem dX12_sort_48 : decode cX12_sort 48 = .ok (.aload_n 0, 1) := by decide +kernel
theorem dX12_sort_49 : decode cX12_sort 49 = .ok (.getfield 9, 3) := by decide +kernel
theorem dX12_sort_52 : decode cX12_sort 52 = .ok (.iconst 0, 1) := by decide +kernel
theorem dX12_sort_53 : decode cX12_sort 53 = .ok (.iaload, 1) := by decide +kernel
theorem dX12_sort_54 : decode cX12_sort 54 = .ok (.bipush 8, 2) := by decide +kernel
theorem dX12_sort_56 : decode cX12_sort 56 = .ok (.if_icmp .ne 5, 3) := by decide +kernel
theorem dX12_sort_59 : decode cX12_sort 59 = .ok (.iconst (-1), 1) := by decide +kernel
theorem dX12_sort_60 : decode cX12_sort 60 = .ok (.ireturn, 1) := by decide +kernel
theorem dX12_sort_61 : decode cX12_sort 61 = .ok (.aload_n 0, 1) := by decide +kernel
theorem dX12_sort_62 : decode cX12_sort 62 = .ok (.getfield 9, 3) := by decide +kernel
theorem dX12_sort_65 : decode cX12_sort 65 = .ok (.iconst 0, 1) := by decide +kernel
theorem dX12_sort_66 : decode cX12_sort 66 = .ok (.iaload, 1) := by decide +kernel
theorem dX12_sort_67 : decode cX12_sort 67 = .ok (.istore 4, 2) := by decide +kernel
theorem dX12_sort_69 : decode cX12_sort 69 = .ok (.aload_n 0, 1) := by decide +kernel
theorem dX12_sort_70 : decode cX12_sort 70 = .ok (.getfield 9, 3) := by decide +kernel
theorem dX12_sort_73 : decode cX12_sort 73 = .ok (.iconst 0, 1) := by decide +kernel
theorem dX12_sort_74 : decode cX12_sort 74 = .ok (.dup2, 1) := by decide +kernel
theorem dX12_sort_75 : decode cX12_sort 75 = .ok (.iaload, 1) := by decide +kernel
theorem dX12_sort_76 : decode cX12_sort 76 = .ok (.iconst 1, 1) := by decide +kernel
theorem dX12_sort_77 : decode cX12_sort 77 = .ok (.iadd, 1) := by decide +kernel
theorem dX12_sort_78 : decode cX12_sort 78 = .ok (.iastore, 1) := by decide +kernel
theorem dX12_sort_79 : decode cX12_sort 79 = .ok (.iconst 0, 1) := by decide +kernel
theorem dX12_sort_80 : decode cX12_sort 80 = .ok (.istore 5, 2) := by decide +kernel
theorem dX12_sort_82 : decode cX12_sort 82 = .ok (.iload 5, 2) := by decide +kernel
theorem dX12_sort_84 : decode cX12_sort 84 = .ok (.bipush 11, 2) := by decide +kernel
theorem dX12_sort_86 : decode cX12_sort 86 = .ok (.if_icmp .ge 26, 3) := by decide +kernel
theorem dX12_sort_89 : decode cX12_sort 89 = .ok (.aload_n 0, 1) := by decide +kernel
theorem dX12_sort_90 : decode cX12_sort 90 = .ok (.getfield 9, 3) := by decide +kernel
theorem dX12_sort_93 : decode cX12_sort 93 = .ok (.bipush 15, 2) := by decide +kernel
theorem dX12_sort_95 : decode cX12_sort 95 = .ok (.bipush 11, 2) := by decide +kernel
theorem dX12_sort_97 : decode cX12_sort 97 = .ok (.iload 4, 2) := by decide +kernel
theorem dX12_sort_99 : decode cX12_sort 99 = .ok (.imul, 1) := by decide +kernel
theorem dX12_sort_100 : decode cX12_sort 100 = .ok (.iadd, 1) := by decide +kernel
theorem dX12_sort_101 : decode cX12_sort 101 = .ok (.iload 5, 2) := by decide +kernel
theorem dX12_sort_103 : decode cX12_sort 103 = .ok (.iadd, 1) := by decide +kernel
theorem dX12_sort_104 : decode cX12_sort 104 = .ok (.iconst 0, 1) := by decide +kernel
theorem dX12_sort_105 : decode cX12_sort 105 = .ok (.iastore, 1) := by decide +kernel
theorem dX12_sort_106 : decode cX12_sort 106 = .ok (.iinc 5 1, 3) := by decide +kernel
theorem dX12_sort_109 : decode cX12_sort 109 = .ok (.goto (-27), 3) := by decide +kernel
theorem dX12_sort_112 : decode cX12_sort 112 = .ok (.aload_n 0, 1) := by decide +kernel
theorem dX12_sort_113 : decode cX12_sort 113 = .ok (.getfield 9, 3) := by decide +kernel
theorem dX12_sort_116 : decode cX12_sort 116 = .ok (.bipush 15, 2) := by decide +kernel
theorem dX12_sort_118 : decode cX12_sort 118 = .ok (.bipush 11, 2) := by decide +kernel
theorem dX12_sort_120 : decode cX12_sort 120 = .ok (.iload 4, 2) := by decide +kernel
theorem dX12_sort_122 : decode cX12_sort 122 = .ok (.imul, 1) := by decide +kernel
theorem dX12_sort_123 : decode cX12_sort 123 = .ok (.iadd, 1) := by decide +kernel
theorem dX12_sort_124 : decode cX12_sort 124 = .ok (.iload_n 1, 1) := by decide +kernel
theorem dX12_sort_125 : decode cX12_sort 125 = .ok (.iastore, 1) := by decide +kernel
theorem dX12_sort_126 : decode cX12_sort 126 = .ok (.aload_n 0, 1) := by decide +kernel
theorem dX12_sort_127 : decode cX12_sort 127 = .ok (.getfield 9, 3) := by decide +kernel
theorem dX12_sort_130 : decode cX12_sort 130 = .ok (.bipush 15, 2) := by decide +kernel
theorem dX12_sort_132 : decode cX12_sort 132 = .ok (.bipush 11, 2) := by decide +kernel
theorem dX12_sort_134 : decode cX12_sort 134 = .ok (.iload 4, 2) := by decide +kernel
theorem dX12_sort_136 : decode cX12_sort 136 = .ok (.imul, 1) := by decide +kernel
theorem dX12_sort_137 : decode cX12_sort 137 = .ok (.iadd, 1) := by decide +kernel
theorem dX12_sort_138 : decode cX12_sort 138 = .ok (.iconst 1, 1) := by decide +kernel
theorem dX12_sort_139 : decode cX12_sort 139 = .ok (.iadd, 1) := by decide +kernel
theorem dX12_sort_140 : decode cX12_sort 140 = .ok (.iload_n 2, 1) := by decide +kernel
theorem dX12_sort_141 : decode cX12_sort 141 = .ok (.iastore, 1) := by decide +kernel
theorem dX12_sort_142 : decode cX12_sort 142 = .ok (.aload_n 0, 1) := by decide +kernel
theorem dX12_sort_143 : decode cX12_sort 143 = .ok (.getfield 9, 3) := by decide +kernel
theorem dX12_sort_146 : decode cX12_sort 146 = .ok (.bipush 15, 2) := by decide +kernel
theorem dX12_sort_148 : decode cX12_sort 148 = .ok (.bipush 11, 2) := by decide +kernel
theorem dX12_sort_150 : decode cX12_sort 150 = .ok (.iload 4, 2) := by decide +kernel
theorem dX12_sort_152 : decode cX12_sort 152 = .ok (.imul, 1) := by decide +kernel
theorem dX12_sort_153 : decode cX12_sort 153 = .ok (.iadd, 1) := by decide +kernel
theorem dX12_sort_154 : decode cX12_sort 154 = .ok (.iconst 2, 1) := by decide +kernel
theorem dX12_sort_155 : decode cX12_sort 155 = .ok (.iadd, 1) := by decide +kernel
theorem dX12_sort_156 : decode cX12_sort 156 = .ok (.iload_n 3, 1) := by decide +kernel
theorem dX12_sort_157 : decode cX12_sort 157 = .ok (.iastore, 1) := by decide +kernel
theorem dX12_sort_158 : decode cX12_sort 158 = .ok (.iload 4, 2) := by decide +kernel
theorem dX12_sort_160 : decode cX12_sort 160 = .ok (.ireturn, 1) := by decide +kernel
theorem dX12_span_0 : decode cX12_span 0 = .ok (.aload_n 0, 1) := by decide +kernel
theorem dX12_span_1 : decode cX12_span 1 = .ok (.aload_n 0, 1) := by decide +kernel
theorem dX12_span_2 : decode cX12_span 2 = .ok (.iload_n 1, 1) := by decide +kernel
theorem dX12_span_3 : decode cX12_span 3 = .ok (.invokevirtual 99, 3) := by decide +kernel
theorem dX12_span_6 : decode cX12_span 6 = .ok (.ifCond .eq 15, 3) := by decide +kernel
theorem dX12_span_9 : decode cX12_span 9 = .ok (.iload_n 2, 1) := by decide +kernel
theorem dX12_span_10 : decode cX12_span 10 = .ok (.i2l, 1) := by decide +kernel
theorem dX12_span_11 : decode cX12_span 11 = .ok (.lconst 0, 1) := by decide +kernel
theorem dX12_span_12 : decode cX12_span 12 = .ok (.ldc2_w 103, 3) := by decide +kernel
theorem dX12_span_15 : decode cX12_span 15 = .ok (.invokestatic 83, 3) := by decide +kernel
theorem dX12_span_18 : decode cX12_span 18 = .ok (.ifCond .ne 7, 3) := by decide +kernel
theorem dX12_span_21 : decode cX12_span 21 = .ok (.iconst 1, 1) := by decide +kernel
theorem dX12_span_22 : decode cX12_span 22 = .ok (.goto 34, 3) := by decide +kernel
theorem dX12_span_25 : decode cX12_span 25 = .ok (.iload_n 3, 1) := by decide +kernel
theorem dX12_span_26 : decode cX12_span 26 = .ok (.i2l, 1) := by decide +kernel
theorem dX12_span_27 : decode cX12_span 27 = .ok (.lconst 0, 1) := by decide +kernel
theorem dX12_span_28 : decode cX12_span 28 = .ok (.ldc2_w 105, 3) := by decide +kernel
theorem dX12_span_31 : decode cX12_span 31 = .ok (.invokestatic 83, 3) := by decide +kernel
theorem dX12_span_34 : decode cX12_span 34 = .ok (.ifCond .eq 17, 3) := by decide +kernel
theorem dX12_span_37 : decode cX12_span 37 = .ok (.iload 4, 2) := by decide +kernel
theorem dX12_span_39 : decode cX12_span 39 = .ok (.i2l, 1) := by decide +kernel
theorem dX12_span_40 : decode cX12_span 40 = .ok (.iload_n 3, 1) := by decide +kernel
theorem dX12_span_41 : decode cX12_span 41 = .ok (.i2l, 1) := by decide +kernel
theorem dX12_span_42 : decode cX12_span 42 = .ok (.ldc2_w 105, 3) := by decide +kernel
theorem dX12_span_45 : decode cX12_span 45 = .ok (.invokestatic 83, 3) := by decide +kernel
theorem dX12_span_48 : decode cX12_span 48 = .ok (.ifCond .ne 7, 3) := by decide +kernel
theorem dX12_span_51 : decode cX12_span 51 = .ok (.iconst 2, 1) := by decide +kernel
theorem dX12_span_52 : decode cX12_span 52 = .ok (.goto 4, 3) := by decide +kernel
theorem dX12_span_55 : decode cX12_span 55 = .ok (.iconst 0, 1) := by decide +kernel
theorem dX12_span_56 : decode cX12_span 56 = .ok (.putfield 80, 3) := by decide +kernel
theorem dX12_span_59 : decode cX12_span 59 = .ok (.aload_n 0, 1) := by decide +kernel
theorem dX12_span_60 : decode cX12_span 60 = .ok (.getfield 80, 3) := by decide +kernel
theorem dX12_span_63 : decode cX12_span 63 = .ok (.ifCond .le 4, 3) := by decide +kernel
theorem dX12_span_66 : decode cX12_span 66 = .ok (.return_, 1) := by decide +kernel
theorem dX12_span_67 : decode cX12_span 67 = .ok (.aload_n 0, 1) := by decide +kernel
theorem dX12_span_68 : decode cX12_span 68 = .ok (.getfield 9, 3) := by decide +kernel
theorem dX12_span_71 : decode cX12_span 71 = .ok (.bipush 15, 2) := by decide +kernel
theorem dX12_span_73 : decode cX12_span 73 = .ok (.bipush 11, 2) := by decide +kernel
theorem dX12_span_75 : decode cX12_span 75 = .ok (.iload_n 1, 1) := by decide +kernel
theorem dX12_span_76 : decode cX12_span 76 = .ok (.imul, 1) := by decide +kernel
theorem dX12_span_77 : decode cX12_span 77 = .ok (.iadd, 1) := by decide +kernel
theorem dX12_span_78 : decode cX12_span 78 = .ok (.iconst 3, 1) := by decide +kernel
theorem dX12_span_79 : decode cX12_span 79 = .ok (.iadd, 1) := by decide +kernel
theorem dX12_span_80 : decode cX12_span 80 = .ok (.iconst 2, 1) := by decide +kernel
theorem dX12_span_81 : decode cX12_span 81 = .ok (.iload_n 2, 1) := by decide +kernel
theorem dX12_span_82 : decode cX12_span 82 = .ok (.imul, 1) := by decide +kernel
theorem dX12_span_83 : decode cX12_span 83 = .ok (.iadd, 1) := by decide +kernel
theorem dX12_span_84 : decode cX12_span 84 = .ok (.iload_n 3, 1) := by decide +kernel
theorem dX12_span_85 : decode cX12_span 85 = .ok (.iastore, 1) := by decide +kernel
theorem dX12_span_86 : decode cX12_span 86 = .ok (.aload_n 0, 1) := by decide +kernel
theorem dX12_span_87 : decode cX12_span 87 = .ok (.getfield 9, 3) := by decide +kernel
theorem dX12_span_90 : decode cX12_span 90 = .ok (.bipush 15, 2) := by decide +kernel
theorem dX12_span_92 : decode cX12_span 92 = .ok (.bipush 11, 2) := by decide +kernel
theorem dX12_span_94 : decode cX12_span 94 = .ok (.iload_n 1, 1) := by decide +kernel
theorem dX12_span_95 : decode cX12_span 95 = .ok (.imul, 1) := by decide +kernel
theorem dX12_span_96 : decode cX12_span 96 = .ok (.iadd, 1) := by decide +kernel
theorem dX12_span_97 : decode cX12_span 97 = .ok (.iconst 3, 1) := by decide +kernel
theorem dX12_span_98 : decode cX12_span 98 = .ok (.iadd, 1) := by decide +kernel
theorem dX12_span_99 : decode cX12_span 99 = .ok (.iconst 2, 1) := by decide +kernel
theorem dX12_span_100 : decode cX12_span 100 = .ok (.iload_n 2, 1) := by decide +kernel
theorem dX12_span_101 : decode cX12_span 101 = .ok (.imul, 1) := by decide +kernel
theorem dX12_span_102 : decode cX12_span 102 = .ok (.iadd, 1) := by decide +kernel
theorem dX12_span_103 : decode cX12_span 103 = .ok (.iconst 1, 1) := by decide +kernel
theorem dX12_span_104 : decode cX12_span 104 = .ok (.iadd, 1) := by decide +kernel
theorem dX12_span_105 : decode cX12_span 105 = .ok (.iload 4, 2) := by decide +kernel
theorem dX12_span_107 : decode cX12_span 107 = .ok (.iastore, 1) := by decide +kernel
theorem dX12_span_108 : decode cX12_span 108 = .ok (.return_, 1) := by decide +kernel
theorem dX12_wear_0 : decode cX12_wear 0 = .ok (.aload_n 0, 1) := by decide +kernel
theorem dX12_wear_1 : decode cX12_wear 1 = .ok (.iconst 0, 1) := by decide +kernel
theorem dX12_wear_2 : decode cX12_wear 2 = .ok (.putfield 80, 3) := by decide +kernel
theorem dX12_wear_5 : decode cX12_wear 5 = .ok (.aload_n 0, 1) := by decide +kernel
theorem dX12_wear_6 : decode cX12_wear 6 = .ok (.iload_n 1, 1) := by decide +kernel
theorem dX12_wear_7 : decode cX12_wear 7 = .ok (.invokevirtual 99, 3) := by decide +kernel
theorem dX12_wear_10 : decode cX12_wear 10 = .ok (.ifCond .ne 9, 3) := by decide +kernel
theorem dX12_wear_13 : decode cX12_wear 13 = .ok (.aload_n 0, 1) := by decide +kernel
theorem dX12_wear_14 : decode cX12_wear 14 = .ok (.iconst 1, 1) := by decide +kernel
theorem dX12_wear_15 : decode cX12_wear 15 = .ok (.invokevirtual 95, 3) := by decide +kernel
theorem dX12_wear_18 : decode cX12_wear 18 = .ok (.ireturn, 1) := by decide +kernel
theorem dX12_wear_19 : decode cX12_wear 19 = .ok (.iload_n 2, 1) := by decide +kernel
theorem dX12_wear_20 : decode cX12_wear 20 = .ok (.i2l, 1) := by decide +kernel
theorem dX12_wear_21 : decode cX12_wear 21 = .ok (.lconst 0, 1) := by decide +kernel
theorem dX12_wear_22 : decode cX12_wear 22 = .ok (.ldc2_w 107, 3) := by decide +kernel
theorem dX12_wear_25 : decode cX12_wear 25 = .ok (.invokestatic 83, 3) := by decide +kernel
theorem dX12_wear_28 : decode cX12_wear 28 = .ok (.ifCond .eq 21, 3) := by decide +kernel
theorem dX12_wear_31 : decode cX12_wear 31 = .ok (.aload_n 0, 1) := by decide +kernel
theorem dX12_wear_32 : decode cX12_wear 32 = .ok (.bipush 15, 2) := by decide +kernel
theorem dX12_wear_34 : decode cX12_wear 34 = .ok (.bipush 11, 2) := by decide +kernel
theorem dX12_wear_36 : decode cX12_wear 36 = .ok (.iload_n 1, 1) := by decide +kernel
theorem dX12_wear_37 : decode cX12_wear 37 = .ok (.imul, 1) := by decide +kernel
theorem dX12_wear_38 : decode cX12_wear 38 = .ok (.iadd, 1) := by decide +kernel
theorem dX12_wear_39 : decode cX12_wear 39 = .ok (.bipush 9, 2) := by decide +kernel
theorem dX12_wear_41 : decode cX12_wear 41 = .ok (.iadd, 1) := by decide +kernel
theorem dX12_wear_42 : decode cX12_wear 42 = .ok (.iload_n 2, 1) := by decide +kernel
theorem dX12_wear_43 : decode cX12_wear 43 = .ok (.invokevirtual 109, 3) := by decide +kernel
theorem dX12_wear_46 : decode cX12_wear 46 = .ok (.goto 8, 3) := by decide +kernel
theorem dX12_wear_49 : decode cX12_wear 49 = .ok (.aload_n 0, 1) := by decide +kernel
theorem dX12_wear_50 : decode cX12_wear 50 = .ok (.iconst 2, 1) := by decide +kernel
theorem dX12_wear_51 : decode cX12_wear 51 = .ok (.invokevirtual 95, 3) := by decide +kernel
theorem dX12_wear_54 : decode cX12_wear 54 = .ok (.ireturn, 1) := by decide +kernel
theorem dX12_flow_0 : decode cX12_flow 0 = .ok (.aload_n 0, 1) := by decide +kernel
theorem dX12_flow_1 : decode cX12_flow 1 = .ok (.iconst 0, 1) := by decide +kernel
theorem dX12_flow_2 : decode cX12_flow 2 = .ok (.putfield 80, 3) := by decide +kernel
theorem dX12_flow_5 : decode cX12_flow 5 = .ok (.aload_n 0, 1) := by decide +kernel
theorem dX12_flow_6 : decode cX12_flow 6 = .ok (.iload_n 1, 1) := by decide +kernel
theorem dX12_flow_7 : decode cX12_flow 7 = .ok (.invokevirtual 99, 3) := by decide +kernel
theorem dX12_flow_10 : decode cX12_flow 10 = .ok (.ifCond .ne 9, 3) := by decide +kernel
theorem dX12_flow_13 : decode cX12_flow 13 = .ok (.aload_n 0, 1) := by decide +kernel
theorem dX12_flow_14 : decode cX12_flow 14 = .ok (.iconst 1, 1) := by decide +kernel
theorem dX12_flow_15 : decode cX12_flow 15 = .ok (.invokevirtual 95, 3) := by decide +kernel
theorem dX12_flow_18 : decode cX12_flow 18 = .ok (.ireturn, 1) := by decide +kernel
theorem dX12_flow_19 : decode cX12_flow 19 = .ok (.iload_n 2, 1) := by decide +kernel
theorem dX12_flow_20 : decode cX12_flow 20 = .ok (.i2l, 1) := by decide +kernel
theorem dX12_flow_21 : decode cX12_flow 21 = .ok (.lconst 0, 1) := by decide +kernel
theorem dX12_flow_22 : decode cX12_flow 22 = .ok (.ldc2_w 113, 3) := by decide +kernel
theorem dX12_flow_25 : decode cX12_flow 25 = .ok (.invokestatic 83, 3) := by decide +kernel
theorem dX12_flow_28 : decode cX12_flow 28 = .ok (.ifCond .eq 21, 3) := by decide +kernel
theorem dX12_flow_31 : decode cX12_flow 31 = .ok (.aload_n 0, 1) := by decide +kernel
theorem dX12_flow_32 : decode cX12_flow 32 = .ok (.bipush 15, 2) := by decide +kernel
theorem dX12_flow_34 : decode cX12_flow 34 = .ok (.bipush 11, 2) := by decide +kernel
theorem dX12_flow_36 : decode cX12_flow 36 = .ok (.iload_n 1, 1) := by decide +kernel
theorem dX12_flow_37 : decode cX12_flow 37 = .ok (.imul, 1) := by decide +kernel
theorem dX12_flow_38 : decode cX12_flow 38 = .ok (.iadd, 1) := by decide +kernel
theorem dX12_flow_39 : decode cX12_flow 39 = .ok (.bipush 10, 2) := by decide +kernel
theorem dX12_flow_41 : decode cX12_flow 41 = .ok (.iadd, 1) := by decide +kernel
theorem dX12_flow_42 : decode cX12_flow 42 = .ok (.iload_n 2, 1) := by decide +kernel
theorem dX12_flow_43 : decode cX12_flow 43 = .ok (.invokevirtual 109, 3) := by decide +kernel
theorem dX12_flow_46 : decode cX12_flow 46 = .ok (.goto 8, 3) := by decide +kernel
theorem dX12_flow_49 : decode cX12_flow 49 = .ok (.aload_n 0, 1) := by decide +kernel
theorem dX12_flow_50 : decode cX12_flow 50 = .ok (.iconst 2, 1) := by decide +kernel
theorem dX12_flow_51 : decode cX12_flow 51 = .ok (.invokevirtual 95, 3) := by decide +kernel
theorem dX12_flow_54 : decode cX12_flow 54 = .ok (.ireturn, 1) := by decide +kernel
theorem dX12_set_0 : decode cX12_set 0 = .ok (.aload_n 0, 1) := by decide +kernel
theorem dX12_set_1 : decode cX12_set 1 = .ok (.iconst 0, 1) := by decide +kernel
theorem dX12_set_2 : decode cX12_set 2 = .ok (.putfield 80, 3) := by decide +kernel
theorem dX12_set_5 : decode cX12_set 5 = .ok (.iload_n 1, 1) := by decide +kernel
theorem dX12_set_6 : decode cX12_set 6 = .ok (.i2l, 1) := by decide +kernel
theorem dX12_set_7 : decode cX12_set 7 = .ok (.lconst 0, 1) := by decide +kernel
theorem dX12_set_8 : decode cX12_set 8 = .ok (.ldc2_w 115, 3) := by decide +kernel
theorem dX12_set_11 : decode cX12_set 11 = .ok (.invokestatic 83, 3) := by decide +kernel
theorem dX12_set_14 : decode cX12_set 14 = .ok (.ifCond .ne 9, 3) := by decide +kernel
theorem dX12_set_17 : decode cX12_set 17 = .ok (.aload_n 0, 1) := by decide +kernel
theorem dX12_set_18 : decode cX12_set 18 = .ok (.iconst 1, 1) := by decide +kernel
theorem dX12_set_19 : decode cX12_set 19 = .ok (.invokevirtual 95, 3) := by decide +kernel
theorem dX12_set_22 : decode cX12_set 22 = .ok (.ireturn, 1) := by decide +kernel
theorem dX12_set_23 : decode cX12_set 23 = .ok (.iload_n 1, 1) := by decide +kernel
theorem dX12_set_24 : decode cX12_set 24 = .ok (.iconst 2, 1) := by decide +kernel
theorem dX12_set_25 : decode cX12_set 25 = .ok (.if_icmp .ne 8, 3) := by decide +kernel
theorem dX12_set_28 : decode cX12_set 28 = .ok (.bipush (-10), 2) := by decide +kernel
theorem dX12_set_30 : decode cX12_set 30 = .ok (.goto 4, 3) := by decide +kernel
theorem dX12_set_33 : decode cX12_set 33 = .ok (.iconst 0, 1) := by decide +kernel
theorem dX12_set_34 : decode cX12_set 34 = .ok (.istore_n 3, 1) := by decide +kernel
theorem dX12_set_35 : decode cX12_set 35 = .ok (.iload_n 1, 1) := by decide +kernel
theorem dX12_set_36 : decode cX12_set 36 = .ok (.ifCond .eq 8, 3) := by decide +kernel
theorem dX12_set_39 : decode cX12_set 39 = .ok (.iload_n 1, 1) := by decide +kernel
theorem dX12_set_40 : decode cX12_set 40 = .ok (.iconst 3, 1) := by decide +kernel
theorem dX12_set_41 : decode cX12_set 41 = .ok (.if_icmp .ne 9, 3) := by decide +kernel
theorem dX12_set_44 : decode cX12_set 44 = .ok (.sipush 999, 3) := by decide +kernel
theorem dX12_set_47 : decode cX12_set 47 = .ok (.goto 15, 3) := by decide +kernel
theorem dX12_set_50 : decode cX12_set 50 = .ok (.iload_n 1, 1) := by decide +kernel
theorem dX12_set_51 : decode cX12_set 51 = .ok (.iconst 1, 1) := by decide +kernel
theorem dX12_set_52 : decode cX12_set 52 = .ok (.if_icmp .ne 8, 3) := by decide +kernel
theorem dX12_set_55 : decode cX12_set 55 = .ok (.bipush 20, 2) := by decide +kernel
theorem dX12_set_57 : decode cX12_set 57 = .ok (.goto 5, 3) := by decide +kernel
theorem dX12_set_60 : decode cX12_set 60 = .ok (.bipush 10, 2) := by decide +kernel
theorem dX12_set_62 : decode cX12_set 62 = .ok (.istore 4, 2) := by decide +kernel
theorem dX12_set_64 : decode cX12_set 64 = .ok (.iload_n 2, 1) := by decide +kernel
theorem dX12_set_65 : decode cX12_set 65 = .ok (.i2l, 1) := by decide +kernel
theorem dX12_set_66 : decode cX12_set 66 = .ok (.iload_n 3, 1) := by decide +kernel
theorem dX12_set_67 : decode cX12_set 67 = .ok (.i2l, 1) := by decide +kernel
theorem dX12_set_68 : decode cX12_set 68 = .ok (.iload 4, 2) := by decide +kernel
theorem dX12_set_70 : decode cX12_set 70 = .ok (.i2l, 1) := by decide +kernel
theorem dX12_set_71 : decode cX12_set 71 = .ok (.invokestatic 83, 3) := by decide +kernel
theorem dX12_set_74 : decode cX12_set 74 = .ok (.ifCond .eq 15, 3) := by decide +kernel
theorem dX12_set_77 : decode cX12_set 77 = .ok (.aload_n 0, 1) := by decide +kernel
theorem dX12_set_78 : decode cX12_set 78 = .ok (.bipush 7, 2) := by decide +kernel
theorem dX12_set_80 : decode cX12_set 80 = .ok (.iload_n 1, 1) := by decide +kernel
theorem dX12_set_81 : decode cX12_set 81 = .ok (.iadd, 1) := by decide +kernel
theorem dX12_set_82 : decode cX12_set 82 = .ok (.iload_n 2, 1) := by decide +kernel
theorem dX12_set_83 : decode cX12_set 83 = .ok (.invokevirtual 109, 3) := by decide +kernel
theorem dX12_set_86 : decode cX12_set 86 = .ok (.goto 8, 3) := by decide +kernel
theorem dX12_set_89 : decode cX12_set 89 = .ok (.aload_n 0, 1) := by decide +kernel
theorem dX12_set_90 : decode cX12_set 90 = .ok (.iconst 2, 1) := by decide +kernel
theorem dX12_set_91 : decode cX12_set 91 = .ok (.invokevirtual 95, 3) := by decide +kernel
theorem dX12_set_94 : decode cX12_set 94 = .ok (.ireturn, 1) := by decide +kernel
theorem dX12_isGood_0 : decode cX12_isGood 0 = .ok (.aload_n 0, 1) := by decide +kernel
theorem dX12_isGood_1 : decode cX12_isGood 1 = .ok (.iload_n 1, 1) := by decide +kernel
theorem dX12_isGood_2 : decode cX12_isGood 2 = .ok (.invokevirtual 99, 3) := by decide +kernel
theorem dX12_isGood_5 : decode cX12_isGood 5 = .ok (.ifCond .eq 44, 3) := by decide +kernel
theorem dX12_isGood_8 : decode cX12_isGood 8 = .ok (.aload_n 0, 1) := by decide +kernel
theorem dX12_isGood_9 : decode cX12_isGood 9 = .ok (.iload_n 1, 1) := by decide +kernel
theorem dX12_isGood_10 : decode cX12_isGood 10 = .ok (.iconst 0, 1) := by decide +kernel
theorem dX12_isGood_11 : decode cX12_isGood 11 = .ok (.invokevirtual 117, 3) := by decide +kernel
theorem dX12_isGood_14 : decode cX12_isGood 14 = .ok (.ifCond .le 35, 3) := by decide +kernel
theorem dX12_isGood_17 : decode cX12_isGood 17 = .ok (.aload_n 0, 1) := by decide +kernel
theorem dX12_isGood_18 : decode cX12_isGood 18 = .ok (.getfield 9, 3) := by decide +kernel
theorem dX12_isGood_21 : decode cX12_isGood 21 = .ok (.bipush 7, 2) := by decide +kernel
theorem dX12_isGood_23 : decode cX12_isGood 23 = .ok (.iaload, 1) := by decide +kernel
theorem dX12_isGood_24 : decode cX12_isGood 24 = .ok (.i2l, 1) := by decide +kernel
theorem dX12_isGood_25 : decode cX12_isGood 25 = .ok (.aload_n 0, 1) := by decide +kernel
theorem dX12_isGood_26 : decode cX12_isGood 26 = .ok (.iload_n 1, 1) := by decide +kernel
theorem dX12_isGood_27 : decode cX12_isGood 27 = .ok (.iconst 1, 1) := by decide +kernel
theorem dX12_isGood_28 : decode cX12_isGood 28 = .ok (.invokevirtual 117, 3) := by decide +kernel
theorem dX12_isGood_31 : decode cX12_isGood 31 = .ok (.i2l, 1) := by decide +kernel
theorem dX12_isGood_32 : decode cX12_isGood 32 = .ok (.aload_n 0, 1) := by decide +kernel
theorem dX12_isGood_33 : decode cX12_isGood 33 = .ok (.iload_n 1, 1) := by decide +kernel
theorem dX12_isGood_34 : decode cX12_isGood 34 = .ok (.iconst 2, 1) := by decide +kernel
theorem dX12_isGood_35 : decode cX12_isGood 35 = .ok (.invokevirtual 117, 3) := by decide +kernel
theorem dX12_isGood_38 : decode cX12_isGood 38 = .ok (.i2l, 1) := by decide +kernel
theorem dX12_isGood_39 : decode cX12_isGood 39 = .ok (.invokestatic 83, 3) := by decide +kernel
theorem dX12_isGood_42 : decode cX12_isGood 42 = .ok (.ifCond .eq 7, 3) := by decide +kernel
theorem dX12_isGood_45 : decode cX12_isGood 45 = .ok (.iconst 1, 1) := by decide +kernel
theorem dX12_isGood_46 : decode cX12_isGood 46 = .ok (.goto 4, 3) := by decide +kernel
theorem dX12_isGood_49 : decode cX12_isGood 49 = .ok (.iconst 0, 1) := by decide +kernel
theorem dX12_isGood_50 : decode cX12_isGood 50 = .ok (.ireturn, 1) := by decide +kernel
theorem dX12_valueOf_0 : decode cX12_valueOf 0 = .ok (.aload_n 0, 1) := by decide +kernel
theorem dX12_valueOf_1 : decode cX12_valueOf 1 = .ok (.iload_n 1, 1) := by decide +kernel
theorem dX12_valueOf_2 : decode cX12_valueOf 2 = .ok (.invokevirtual 120, 3) := by decide +kernel
theorem dX12_valueOf_5 : decode cX12_valueOf 5 = .ok (.ifCond .eq 12, 3) := by decide +kernel
theorem dX12_valueOf_8 : decode cX12_valueOf 8 = .ok (.aload_n 0, 1) := by decide +kernel
theorem dX12_valueOf_9 : decode cX12_valueOf 9 = .ok (.iload_n 1, 1) := by decide +kernel
theorem dX12_valueOf_10 : decode cX12_valueOf 10 = .ok (.iconst 0, 1) := by decide +kernel
theorem dX12_valueOf_11 : decode cX12_valueOf 11 = .ok (.invokevirtual 117, 3) := by decide +kernel
theorem dX12_valueOf_14 : decode cX12_valueOf 14 = .ok (.goto 4, 3) := by decide +kernel
theorem dX12_valueOf_17 : decode cX12_valueOf 17 = .ok (.iconst 0, 1) := by decide +kernel
theorem dX12_valueOf_18 : decode cX12_valueOf 18 = .ok (.ireturn, 1) := by decide +kernel
theorem dX12_good_0 : decode cX12_good 0 = .ok (.aload_n 0, 1) := by decide +kernel
theorem dX12_good_1 : decode cX12_good 1 = .ok (.aload_n 0, 1) := by decide +kernel
theorem dX12_good_2 : decode cX12_good 2 = .ok (.iload_n 1, 1) := by decide +kernel
theorem dX12_good_3 : decode cX12_good 3 = .ok (.invokevirtual 99, 3) := by decide +kernel
theorem dX12_good_6 : decode cX12_good 6 = .ok (.ifCond .eq 7, 3) := by decide +kernel
theorem dX12_good_9 : decode cX12_good 9 = .ok (.iconst 0, 1) := by decide +kernel
theorem dX12_good_10 : decode cX12_good 10 = .ok (.goto 4, 3) := by decide +kernel
theorem dX12_good_13 : decode cX12_good 13 = .ok (.iconst 1, 1) := by decide +kernel
theorem dX12_good_14 : decode cX12_good 14 = .ok (.putfield 80, 3) := by decide +kernel
theorem dX12_good_17 : decode cX12_good 17 = .ok (.aload_n 0, 1) := by decide +kernel
theorem dX12_good_18 : decode cX12_good 18 = .ok (.getfield 80, 3) := by decide +kernel
theorem dX12_good_21 : decode cX12_good 21 = .ok (.ifCond .ne 15, 3) := by decide +kernel
theorem dX12_good_24 : decode cX12_good 24 = .ok (.aload_n 0, 1) := by decide +kernel
theorem dX12_good_25 : decode cX12_good 25 = .ok (.iload_n 1, 1) := by decide +kernel
theorem dX12_good_26 : decode cX12_good 26 = .ok (.invokevirtual 120, 3) := by decide +kernel
theorem dX12_good_29 : decode cX12_good 29 = .ok (.ifCond .eq 7, 3) := by decide +kernel
theorem dX12_good_32 : decode cX12_good 32 = .ok (.iconst 1, 1) := by decide +kernel
theorem dX12_good_33 : decode cX12_good 33 = .ok (.goto 4, 3) := by decide +kernel
theorem dX12_good_36 : decode cX12_good 36 = .ok (.iconst 0, 1) := by decide +kernel
theorem dX12_good_37 : decode cX12_good 37 = .ok (.ireturn, 1) := by decide +kernel
theorem dX12_endOf_0 : decode cX12_endOf 0 = .ok (.aload_n 0, 1) := by decide +kernel
theorem dX12_endOf_1 : decode cX12_endOf 1 = .ok (.iload_n 1, 1) := by decide +kernel
theorem dX12_endOf_2 : decode cX12_endOf 2 = .ok (.iconst 3, 1) := by decide +kernel
theorem dX12_endOf_3 : decode cX12_endOf 3 = .ok (.iconst 2, 1) := by decide +kernel
theorem dX12_endOf_4 : decode cX12_endOf 4 = .ok (.iload_n 2, 1) := by decide +kernel
theorem dX12_endOf_5 : decode cX12_endOf 5 = .ok (.imul, 1) := by decide +kernel
theorem dX12_endOf_6 : decode cX12_endOf 6 = .ok (.iadd, 1) := by decide +kernel
theorem dX12_endOf_7 : decode cX12_endOf 7 = .ok (.iload_n 3, 1) := by decide +kernel
theorem dX12_endOf_8 : decode cX12_endOf 8 = .ok (.iadd, 1) := by decide +kernel
theorem dX12_endOf_9 : decode cX12_endOf 9 = .ok (.invokevirtual 117, 3) := by decide +kernel
theorem dX12_endOf_12 : decode cX12_endOf 12 = .ok (.istore 4, 2) := by decide +kernel
theorem dX12_endOf_14 : decode cX12_endOf 14 = .ok (.iload_n 2, 1) := by decide +kernel
theorem dX12_endOf_15 : decode cX12_endOf 15 = .ok (.ifCond .le 8, 3) := by decide +kernel
theorem dX12_endOf_18 : decode cX12_endOf 18 = .ok (.iload 4, 2) := by decide +kernel
theorem dX12_endOf_20 : decode cX12_endOf 20 = .ok (.goto 28, 3) := by decide +kernel
theorem dX12_endOf_23 : decode cX12_endOf 23 = .ok (.iconst 0, 1) := by decide +kernel
theorem dX12_endOf_24 : decode cX12_endOf 24 = .ok (.iload 4, 2) := by decide +kernel
theorem dX12_endOf_26 : decode cX12_endOf 26 = .ok (.aload_n 0, 1) := by decide +kernel
theorem dX12_endOf_27 : decode cX12_endOf 27 = .ok (.iload_n 1, 1) := by decide +kernel
theorem dX12_endOf_28 : decode cX12_endOf 28 = .ok (.bipush 9, 2) := by decide +kernel
theorem dX12_endOf_30 : decode cX12_endOf 30 = .ok (.invokevirtual 117, 3) := by decide +kernel
theorem dX12_endOf_33 : decode cX12_endOf 33 = .ok (.aload_n 0, 1) := by decide +kernel
theorem dX12_endOf_34 : decode cX12_endOf 34 = .ok (.getfield 9, 3) := by decide +kernel
theorem dX12_endOf_37 : decode cX12_endOf 37 = .ok (.bipush 8, 2) := by decide +kernel
theorem dX12_endOf_39 : decode cX12_endOf 39 = .ok (.iaload, 1) := by decide +kernel
theorem dX12_endOf_40 : decode cX12_endOf 40 = .ok (.imul, 1) := by decide +kernel
theorem dX12_endOf_41 : decode cX12_endOf 41 = .ok (.bipush 10, 2) := by decide +kernel
theorem dX12_endOf_43 : decode cX12_endOf 43 = .ok (.idiv, 1) := by decide +kernel
theorem dX12_endOf_44 : decode cX12_endOf 44 = .ok (.isub, 1) := by decide +kernel
theorem dX12_endOf_45 : decode cX12_endOf 45 = .ok (.invokestatic 123, 3) := by decide +kernel
theorem dX12_endOf_48 : decode cX12_endOf 48 = .ok (.ireturn, 1) := by decide +kernel
theorem dX12_many_0 : decode cX12_many 0 = .ok (.lconst 1, 1) := by decide +kernel
theorem dX12_many_1 : decode cX12_many 1 = .ok (.lstore_n 2, 1) := by decide +kernel
theorem dX12_many_2 : decode cX12_many 2 = .ok (.iconst 0, 1) := by decide +kernel
theorem dX12_many_3 : decode cX12_many 3 = .ok (.istore 4, 2) := by decide +kernel
theorem dX12_many_5 : decode cX12_many 5 = .ok (.iload 4, 2) := by decide +kernel
theorem dX12_many_7 : decode cX12_many 7 = .ok (.iconst 3, 1) := by decide +kernel
theorem dX12_many_8 : decode cX12_many 8 = .ok (.if_icmp .ge 32, 3) := by decide +kernel
theorem dX12_many_11 : decode cX12_many 11 = .ok (.lload_n 2, 1) := by decide +kernel
theorem dX12_many_12 : decode cX12_many 12 = .ok (.aload_n 0, 1) := by decide +kernel
theorem dX12_many_13 : decode cX12_many 13 = .ok (.iload_n 1, 1) := by decide +kernel
theorem dX12_many_14 : decode cX12_many 14 = .ok (.iload 4, 2) := by decide +kernel
theorem dX12_many_16 : decode cX12_many 16 = .ok (.iconst 1, 1) := by decide +kernel
theorem dX12_many_17 : decode cX12_many 17 = .ok (.invokevirtual 128, 3) := by decide +kernel
theorem dX12_many_20 : decode cX12_many 20 = .ok (.aload_n 0, 1) := by decide +kernel
theorem dX12_many_21 : decode cX12_many 21 = .ok (.iload_n 1, 1) := by decide +kernel
theorem dX12_many_22 : decode cX12_many 22 = .ok (.iload 4, 2) := by decide +kernel
theorem dX12_many_24 : decode cX12_many 24 = .ok (.iconst 0, 1) := by decide +kernel
theorem dX12_many_25 : decode cX12_many 25 = .ok (.invokevirtual 128, 3) := by decide +kernel
theorem dX12_many_28 : decode cX12_many 28 = .ok (.isub, 1) := by decide +kernel
theorem dX12_many_29 : decode cX12_many 29 = .ok (.iconst 1, 1) := by decide +kernel
theorem dX12_many_30 : decode cX12_many 30 = .ok (.iadd, 1) := by decide +kernel
theorem dX12_many_31 : decode cX12_many 31 = .ok (.i2l, 1) := by decide +kernel
theorem dX12_many_32 : decode cX12_many 32 = .ok (.lmul, 1) := by decide +kernel
theorem dX12_many_33 : decode cX12_many 33 = .ok (.lstore_n 2, 1) := by decide +kernel
theorem dX12_many_34 : decode cX12_many 34 = .ok (.iinc 4 1, 3) := by decide +kernel
theorem dX12_many_37 : decode cX12_many 37 = .ok (.goto (-32), 3) := by decide +kernel
theorem dX12_many_40 : decode cX12_many 40 = .ok (.lload_n 2, 1) := by decide +kernel
theorem dX12_many_41 : decode cX12_many 41 = .ok (.lreturn, 1) := by decide +kernel
theorem dX12_coins_0 : decode cX12_coins 0 = .ok (.aload_n 0, 1) := by decide +kernel
theorem dX12_coins_1 : decode cX12_coins 1 = .ok (.iconst 0, 1) := by decide +kernel
theorem dX12_coins_2 : decode cX12_coins 2 = .ok (.putfield 80, 3) := by decide +kernel
theorem dX12_coins_5 : decode cX12_coins 5 = .ok (.aload_n 0, 1) := by decide +kernel
theorem dX12_coins_6 : decode cX12_coins 6 = .ok (.iload_n 1, 1) := by decide +kernel
theorem dX12_coins_7 : decode cX12_coins 7 = .ok (.invokevirtual 99, 3) := by decide +kernel
theorem dX12_coins_10 : decode cX12_coins 10 = .ok (.ifCond .eq 11, 3) := by decide +kernel
theorem dX12_coins_13 : decode cX12_coins 13 = .ok (.aload_n 0, 1) := by decide +kernel
theorem dX12_coins_14 : decode cX12_coins 14 = .ok (.iload_n 1, 1) := by decide +kernel
theorem dX12_coins_15 : decode cX12_coins 15 = .ok (.invokevirtual 132, 3) := by decide +kernel
theorem dX12_coins_18 : decode cX12_coins 18 = .ok (.goto 9, 3) := by decide +kernel
theorem dX12_coins_21 : decode cX12_coins 21 = .ok (.aload_n 0, 1) := by decide +kernel
theorem dX12_coins_22 : decode cX12_coins 22 = .ok (.iconst 1, 1) := by decide +kernel
theorem dX12_coins_23 : decode cX12_coins 23 = .ok (.invokevirtual 95, 3) := by decide +kernel
theorem dX12_coins_26 : decode cX12_coins 26 = .ok (.i2l, 1) := by decide +kernel
theorem dX12_coins_27 : decode cX12_coins 27 = .ok (.lreturn, 1) := by decide +kernel
theorem dX12_feed_0 : decode cX12_feed 0 = .ok (.aload_n 0, 1) := by decide +kernel
theorem dX12_feed_1 : decode cX12_feed 1 = .ok (.iconst 0, 1) := by decide +kernel
theorem dX12_feed_2 : decode cX12_feed 2 = .ok (.putfield 80, 3) := by decide +kernel
theorem dX12_feed_5 : decode cX12_feed 5 = .ok (.aload_n 0, 1) := by decide +kernel
theorem dX12_feed_6 : decode cX12_feed 6 = .ok (.getfield 136, 3) := by decide +kernel
theorem dX12_feed_9 : decode cX12_feed 9 = .ok (.bipush 20, 2) := by decide +kernel
theorem dX12_feed_11 : decode cX12_feed 11 = .ok (.iadd, 1) := by decide +kernel
theorem dX12_feed_12 : decode cX12_feed 12 = .ok (.sipush 400, 3) := by decide +kernel
theorem dX12_feed_15 : decode cX12_feed 15 = .ok (.if_icmp .le 5, 3) := by decide +kernel
theorem dX12_feed_18 : decode cX12_feed 18 = .ok (.iconst (-1), 1) := by decide +kernel
theorem dX12_feed_19 : decode cX12_feed 19 = .ok (.ireturn, 1) := by decide +kernel
theorem dX12_feed_20 : decode cX12_feed 20 = .ok (.iconst 0, 1) := by decide +kernel
theorem dX12_feed_21 : decode cX12_feed 21 = .ok (.istore 6, 2) := by decide +kernel
theorem dX12_feed_23 : decode cX12_feed 23 = .ok (.iload 6, 2) := by decide +kernel
theorem dX12_feed_25 : decode cX12_feed 25 = .ok (.bipush 20, 2) := by decide +kernel
theorem dX12_feed_27 : decode cX12_feed 27 = .ok (.if_icmp .ge 93, 3) := by decide +kernel
theorem dX12_feed_30 : decode cX12_feed 30 = .ok (.iload 6, 2) := by decide +kernel
theorem dX12_feed_32 : decode cX12_feed 32 = .ok (.iconst 4, 1) := by decide +kernel
theorem dX12_feed_33 : decode cX12_feed 33 = .ok (.if_icmp .ge 7, 3) := by decide +kernel
theorem dX12_feed_36 : decode cX12_feed 36 = .ok (.iload_n 1, 1) := by decide +kernel
theorem dX12_feed_37 : decode cX12_feed 37 = .ok (.goto 39, 3) := by decide +kernel
theorem dX12_feed_40 : decode cX12_feed 40 = .ok (.iload 6, 2) := by decide +kernel
theorem dX12_feed_42 : decode cX12_feed 42 = .ok (.bipush 8, 2) := by decide +kernel
theorem dX12_feed_44 : decode cX12_feed 44 = .ok (.if_icmp .ge 7, 3) := by decide +kernel
theorem dX12_feed_47 : decode cX12_feed 47 = .ok (.iload_n 2, 1) := by decide +kernel
theorem dX12_feed_48 : decode cX12_feed 48 = .ok (.goto 28, 3) := by decide +kernel
theorem dX12_feed_51 : decode cX12_feed 51 = .ok (.iload 6, 2) := by decide +kernel
theorem dX12_feed_53 : decode cX12_feed 53 = .ok (.bipush 12, 2) := by decide +kernel
theorem dX12_feed_55 : decode cX12_feed 55 = .ok (.if_icmp .ge 7, 3) := by decide +kernel
theorem dX12_feed_58 : decode cX12_feed 58 = .ok (.iload_n 3, 1) := by decide +kernel
theorem dX12_feed_59 : decode cX12_feed 59 = .ok (.goto 17, 3) := by decide +kernel
theorem dX12_feed_62 : decode cX12_feed 62 = .ok (.iload 6, 2) := by decide +kernel
theorem dX12_feed_64 : decode cX12_feed 64 = .ok (.bipush 16, 2) := by decide +kernel
theorem dX12_feed_66 : decode cX12_feed 66 = .ok (.if_icmp .ge 8, 3) := by decide +kernel
theorem dX12_feed_69 : decode cX12_feed 69 = .ok (.iload 4, 2) := by decide +kernel
theorem dX12_feed_71 : decode cX12_feed 71 = .ok (.goto 5, 3) := by decide +kernel
theorem dX12_feed_74 : decode cX12_feed 74 = .ok (.iload 5, 2) := by decide +kernel
theorem dX12_feed_76 : decode cX12_feed 76 = .ok (.istore 7, 2) := by decide +kernel
theorem dX12_feed_78 : decode cX12_feed 78 = .ok (.aload_n 0, 1) := by decide +kernel
theorem dX12_feed_79 : decode cX12_feed 79 = .ok (.getfield 20, 3) := by decide +kernel
theorem dX12_feed_82 : decode cX12_feed 82 = .ok (.aload_n 0, 1) := by decide +kernel
theorem dX12_feed_83 : decode cX12_feed 83 = .ok (.getfield 136, 3) := by decide +kernel
theorem dX12_feed_86 : decode cX12_feed 86 = .ok (.iload 7, 2) := by decide +kernel
theorem dX12_feed_88 : decode cX12_feed 88 = .ok (.bipush 24, 2) := by decide +kernel
theorem dX12_feed_90 : decode cX12_feed 90 = .ok (.bipush 8, 2) := by decide +kernel
theorem dX12_feed_92 : decode cX12_feed 92 = .ok (.iload 6, 2) := by decide +kernel
theorem dX12_feed_94 : decode cX12_feed 94 = .ok (.iconst 3, 1) := by decide +kernel
theorem dX12_feed_95 : decode cX12_feed 95 = .ok (.iand, 1) := by decide +kernel
theorem dX12_feed_96 : decode cX12_feed 96 = .ok (.imul, 1) := by decide +kernel
theorem dX12_feed_97 : decode cX12_feed 97 = .ok (.isub, 1) := by decide +kernel
theorem dX12_feed_98 : decode cX12_feed 98 = .ok (.iushr, 1) := by decide +kernel
theorem dX12_feed_99 : decode cX12_feed 99 = .ok (.sipush 255, 3) := by decide +kernel
theorem dX12_feed_102 : decode cX12_feed 102 = .ok (.iand, 1) := by decide +kernel
theorem dX12_feed_103 : decode cX12_feed 103 = .ok (.iastore, 1) := by decide +kernel
theorem dX12_feed_104 : decode cX12_feed 104 = .ok (.aload_n 0, 1) := by decide +kernel
theorem dX12_feed_105 : decode cX12_feed 105 = .ok (.dup, 1) := by decide +kernel
theorem dX12_feed_106 : decode cX12_feed 106 = .ok (.getfield 136, 3) := by decide +kernel
theorem dX12_feed_109 : decode cX12_feed 109 = .ok (.iconst 1, 1) := by decide +kernel
theorem dX12_feed_110 : decode cX12_feed 110 = .ok (.iadd, 1) := by decide +kernel
theorem dX12_feed_111 : decode cX12_feed 111 = .ok (.putfield 136, 3) := by decide +kernel
theorem dX12_feed_114 : decode cX12_feed 114 = .ok (.iinc 6 1, 3) := by decide +kernel
theorem dX12_feed_117 : decode cX12_feed 117 = .ok (.goto (-94), 3) := by decide +kernel
theorem dX12_feed_120 : decode cX12_feed 120 = .ok (.aload_n 0, 1) := by decide +kernel
theorem dX12_feed_121 : decode cX12_feed 121 = .ok (.getfield 136, 3) := by decide +kernel
theorem dX12_feed_124 : decode cX12_feed 124 = .ok (.ireturn, 1) := by decide +kernel
theorem dX12_see_0 : decode cX12_see 0 = .ok (.iload_n 1, 1) := by decide +kernel
theorem dX12_see_1 : decode cX12_see 1 = .ok (.aload_n 0, 1) := by decide +kernel
theorem dX12_see_2 : decode cX12_see 2 = .ok (.getfield 139, 3) := by decide +kernel
theorem dX12_see_5 : decode cX12_see 5 = .ok (.if_icmp .ge 12, 3) := by decide +kernel
theorem dX12_see_8 : decode cX12_see 8 = .ok (.aload_n 0, 1) := by decide +kernel
theorem dX12_see_9 : decode cX12_see 9 = .ok (.getfield 20, 3) := by decide +kernel
theorem dX12_see_12 : decode cX12_see 12 = .ok (.iload_n 1, 1) := by decide +kernel
theorem dX12_see_13 : decode cX12_see 13 = .ok (.iaload, 1) := by decide +kernel
theorem dX12_see_14 : decode cX12_see 14 = .ok (.goto 4, 3) := by decide +kernel
theorem dX12_see_17 : decode cX12_see 17 = .ok (.iconst 0, 1) := by decide +kernel
theorem dX12_see_18 : decode cX12_see 18 = .ok (.ireturn, 1) := by decide +kernel
theorem dX12_isLetter_0 : decode cX12_isLetter 0 = .ok (.iload_n 0, 1) := by decide +kernel
theorem dX12_isLetter_1 : decode cX12_isLetter 1 = .ok (.bipush 97, 2) := by decide +kernel
theorem dX12_isLetter_3 : decode cX12_isLetter 3 = .ok (.if_icmp .lt 13, 3) := by decide +kernel
theorem dX12_isLetter_6 : decode cX12_isLetter 6 = .ok (.iload_n 0, 1) := by decide +kernel
theorem dX12_isLetter_7 : decode cX12_isLetter 7 = .ok (.bipush 122, 2) := by decide +kernel
theorem dX12_isLetter_9 : decode cX12_isLetter 9 = .ok (.if_icmp .gt 7, 3) := by decide +kernel
theorem dX12_isLetter_12 : decode cX12_isLetter 12 = .ok (.iconst 1, 1) := by decide +kernel
theorem dX12_isLetter_13 : decode cX12_isLetter 13 = .ok (.goto 4, 3) := by decide +kernel
theorem dX12_isLetter_16 : decode cX12_isLetter 16 = .ok (.iconst 0, 1) := by decide +kernel
theorem dX12_isLetter_17 : decode cX12_isLetter 17 = .ok (.ireturn, 1) := by decide +kernel
theorem dX12_isDigit_0 : decode cX12_isDigit 0 = .ok (.iload_n 0, 1) := by decide +kernel
theorem dX12_isDigit_1 : decode cX12_isDigit 1 = .ok (.bipush 48, 2) := by decide +kernel
theorem dX12_isDigit_3 : decode cX12_isDigit 3 = .ok (.if_icmp .lt 13, 3) := by decide +kernel
theorem dX12_isDigit_6 : decode cX12_isDigit 6 = .ok (.iload_n 0, 1) := by decide +kernel
theorem dX12_isDigit_7 : decode cX12_isDigit 7 = .ok (.bipush 57, 2) := by decide +kernel
theorem dX12_isDigit_9 : decode cX12_isDigit 9 = .ok (.if_icmp .gt 7, 3) := by decide +kernel
theorem dX12_isDigit_12 : decode cX12_isDigit 12 = .ok (.iconst 1, 1) := by decide +kernel
theorem dX12_isDigit_13 : decode cX12_isDigit 13 = .ok (.goto 4, 3) := by decide +kernel
theorem dX12_isDigit_16 : decode cX12_isDigit 16 = .ok (.iconst 0, 1) := by decide +kernel
theorem dX12_isDigit_17 : decode cX12_isDigit 17 = .ok (.ireturn, 1) := by decide +kernel
theorem dX12_next_0 : decode cX12_next 0 = .ok (.aload_n 0, 1) := by decide +kernel
theorem dX12_next_1 : decode cX12_next 1 = .ok (.getfield 142, 3) := by decide +kernel
theorem dX12_next_4 : decode cX12_next 4 = .ok (.aload_n 0, 1) := by decide +kernel
theorem dX12_next_5 : decode cX12_next 5 = .ok (.getfield 139, 3) := by decide +kernel
theorem dX12_next_8 : decode cX12_next 8 = .ok (.if_icmp .ge 44, 3) := by decide +kernel
theorem dX12_next_11 : decode cX12_next 11 = .ok (.aload_n 0, 1) := by decide +kernel
theorem dX12_next_12 : decode cX12_next 12 = .ok (.getfield 20, 3) := by decide +kernel
theorem dX12_next_15 : decode cX12_next 15 = .ok (.aload_n 0, 1) := by decide +kernel
theorem dX12_next_16 : decode cX12_next 16 = .ok (.getfield 142, 3) := by decide +kernel
theorem dX12_next_19 : decode cX12_next 19 = .ok (.iaload, 1) := by decide +kernel
theorem dX12_next_20 : decode cX12_next 20 = .ok (.bipush 32, 2) := by decide +kernel
theorem dX12_next_22 : decode cX12_next 22 = .ok (.if_icmp .eq 17, 3) := by decide +kernel
theorem dX12_next_25 : decode cX12_next 25 = .ok (.aload_n 0, 1) := by decide +kernel
theorem dX12_next_26 : decode cX12_next 26 = .ok (.getfield 20, 3) := by decide +kernel
theorem dX12_next_29 : decode cX12_next 29 = .ok (.aload_n 0, 1) := by decide +kernel
theorem dX12_next_30 : decode cX12_next 30 = .ok (.getfield 142, 3) := by decide +kernel
theorem dX12_next_33 : decode cX12_next 33 = .ok (.iaload, 1) := by decide +kernel
theorem dX12_next_34 : decode cX12_next 34 = .ok (.bipush 10, 2) := by decide +kernel
theorem dX12_next_36 : decode cX12_next 36 = .ok (.if_icmp .ne 16, 3) := by decide +kernel
theorem dX12_next_39 : decode cX12_next 39 = .ok (.aload_n 0, 1) := by decide +kernel
theorem dX12_next_40 : decode cX12_next 40 = .ok (.dup, 1) := by decide +kernel
theorem dX12_next_41 : decode cX12_next 41 = .ok (.getfield 142, 3) := by decide +kernel
theorem dX12_next_44 : decode cX12_next 44 = .ok (.iconst 1, 1) := by decide +kernel
theorem dX12_next_45 : decode cX12_next 45 = .ok (.iadd, 1) := by decide +kernel
theorem dX12_next_46 : decode cX12_next 46 = .ok (.putfield 142, 3) := by decide +kernel
theorem dX12_next_49 : decode cX12_next 49 = .ok (.goto (-49), 3) := by decide +kernel
theorem dX12_next_52 : decode cX12_next 52 = .ok (.aload_n 0, 1) := by decide +kernel
theorem dX12_next_53 : decode cX12_next 53 = .ok (.aload_n 0, 1) := by decide +kernel
theorem dX12_next_54 : decode cX12_next 54 = .ok (.getfield 142, 3) := by decide +kernel
theorem dX12_next_57 : decode cX12_next 57 = .ok (.putfield 145, 3) := by decide +kernel
theorem dX12_next_60 : decode cX12_next 60 = .ok (.aload_n 0, 1) := by decide +kernel
theorem dX12_next_61 : decode cX12_next 61 = .ok (.getfield 142, 3) := by decide +kernel
theorem dX12_next_64 : decode cX12_next 64 = .ok (.aload_n 0, 1) := by decide +kernel
theorem dX12_next_65 : decode cX12_next 65 = .ok (.getfield 139, 3) := by decide +kernel
theorem dX12_next_68 : decode cX12_next 68 = .ok (.if_icmp .lt 9, 3) := by decide +kernel
theorem dX12_next_71 : decode cX12_next 71 = .ok (.aload_n 0, 1) := by decide +kernel
theorem dX12_next_72 : decode cX12_next 72 = .ok (.iconst 0, 1) := by decide +kernel
theorem dX12_next_73 : decode cX12_next 73 = .ok (.putfield 148, 3) := by decide +kernel
theorem dX12_next_76 : decode cX12_next 76 = .ok (.return_, 1) := by decide +kernel
theorem dX12_next_77 : decode cX12_next 77 = .ok (.aload_n 0, 1) := by decide +kernel
theorem dX12_next_78 : decode cX12_next 78 = .ok (.getfield 20, 3) := by decide +kernel
theorem dX12_next_81 : decode cX12_next 81 = .ok (.aload_n 0, 1) := by decide +kernel
theorem dX12_next_82 : decode cX12_next 82 = .ok (.getfield 142, 3) := by decide +kernel
theorem dX12_next_85 : decode cX12_next 85 = .ok (.iaload, 1) := by decide +kernel
theorem dX12_next_86 : decode cX12_next 86 = .ok (.istore_n 1, 1) := by decide +kernel
theorem dX12_next_87 : decode cX12_next 87 = .ok (.iload_n 1, 1) := by decide +kernel
theorem dX12_next_88 : decode cX12_next 88 = .ok (.invokestatic 151, 3) := by decide +kernel
theorem dX12_next_91 : decode cX12_next 91 = .ok (.ifCond .eq 38, 3) := by decide +kernel
theorem dX12_next_94 : decode cX12_next 94 = .ok (.aload_n 0, 1) := by decide +kernel
theorem dX12_next_95 : decode cX12_next 95 = .ok (.aload_n 0, 1) := by decide +kernel
theorem dX12_next_96 : decode cX12_next 96 = .ok (.getfield 142, 3) := by decide +kernel
theorem dX12_next_99 : decode cX12_next 99 = .ok (.invokevirtual 154, 3) := by decide +kernel
theorem dX12_next_102 : decode cX12_next 102 = .ok (.invokestatic 151, 3) := by decide +kernel
theorem dX12_next_105 : decode cX12_next 105 = .ok (.ifCond .eq 16, 3) := by decide +kernel
theorem dX12_next_108 : decode cX12_next 108 = .ok (.aload_n 0, 1) := by decide +kernel
theorem dX12_next_109 : decode cX12_next 109 = .ok (.dup, 1) := by decide +kernel
theorem dX12_next_110 : decode cX12_next 110 = .ok (.getfield 142, 3) := by decide +kernel
theorem dX12_next_113 : decode cX12_next 113 = .ok (.iconst 1, 1) := by decide +kernel
theorem dX12_next_114 : decode cX12_next 114 = .ok (.iadd, 1) := by decide +kernel
theorem dX12_next_115 : decode cX12_next 115 = .ok (.putfield 142, 3) := by decide +kernel
theorem dX12_next_118 : decode cX12_next 118 = .ok (.goto (-24), 3) := by decide +kernel
theorem dX12_next_121 : decode cX12_next 121 = .ok (.aload_n 0, 1) := by decide +kernel
theorem dX12_next_122 : decode cX12_next 122 = .ok (.iconst 1, 1) := by decide +kernel
theorem dX12_next_123 : decode cX12_next 123 = .ok (.putfield 148, 3) := by decide +kernel
theorem dX12_next_126 : decode cX12_next 126 = .ok (.goto 136, 3) := by decide +kernel
theorem dX12_next_129 : decode cX12_next 129 = .ok (.iload_n 1, 1) := by decide +kernel
theorem dX12_next_130 : decode cX12_next 130 = .ok (.invokestatic 157, 3) := by decide +kernel
theorem dX12_next_133 : decode cX12_next 133 = .ok (.ifCond .eq 104, 3) := by decide +kernel
theorem dX12_next_136 : decode cX12_next 136 = .ok (.aload_n 0, 1) := by decide +kernel
theorem dX12_next_137 : decode cX12_next 137 = .ok (.iconst 0, 1) := by decide +kernel
theorem dX12_next_138 : decode cX12_next 138 = .ok (.putfield 160, 3) := by decide +kernel
theorem dX12_next_141 : decode cX12_next 141 = .ok (.aload_n 0, 1) := by decide +kernel
theorem dX12_next_142 : decode cX12_next 142 = .ok (.aload_n 0, 1) := by decide +kernel
theorem dX12_next_143 : decode cX12_next 143 = .ok (.getfield 142, 3) := by decide +kernel
theorem dX12_next_146 : decode cX12_next 146 = .ok (.invokevirtual 154, 3) := by decide +kernel
theorem dX12_next_149 : decode cX12_next 149 = .ok (.invokestatic 157, 3) := by decide +kernel
theorem dX12_next_152 : decode cX12_next 152 = .ok (.ifCond .eq 60, 3) := by decide +kernel
theorem dX12_next_155 : decode cX12_next 155 = .ok (.aload_n 0, 1) := by decide +kernel
theorem dX12_next_156 : decode cX12_next 156 = .ok (.aload_n 0, 1) := by decide +kernel
theorem dX12_next_157 : decode cX12_next 157 = .ok (.getfield 142, 3) := by decide +kernel
theorem dX12_next_160 : decode cX12_next 160 = .ok (.aload_n 0, 1) := by decide +kernel
theorem dX12_next_161 : decode cX12_next 161 = .ok (.getfield 145, 3) := by decide +kernel
theorem dX12_next_164 : decode cX12_next 164 = .ok (.isub, 1) := by decide +kernel
theorem dX12_next_165 : decode cX12_next 165 = .ok (.iconst 2, 1) := by decide +kernel
theorem dX12_next_166 : decode cX12_next 166 = .ok (.if_icmp .ge 26, 3) := by decide +kernel
theorem dX12_next_169 : decode cX12_next 169 = .ok (.bipush 10, 2) := by decide +kernel
theorem dX12_next_171 : decode cX12_next 171 = .ok (.aload_n 0, 1) := by decide +kernel
theorem dX12_next_172 : decode cX12_next 172 = .ok (.getfield 160, 3) := by decide +kernel
theorem dX12_next_175 : decode cX12_next 175 = .ok (.imul, 1) := by decide +kernel
theorem dX12_next_176 : decode cX12_next 176 = .ok (.aload_n 0, 1) := by decide +kernel
theorem dX12_next_177 : decode cX12_next 177 = .ok (.getfield 20, 3) := by decide +kernel
theorem dX12_next_180 : decode cX12_next 180 = .ok (.aload_n 0, 1) := by decide +kernel
theorem dX12_next_181 : decode cX12_next 181 = .ok (.getfield 142, 3) := by decide +kernel
theorem dX12_next_184 : decode cX12_next 184 = .ok (.iaload, 1) := by decide +kernel
theorem dX12_next_185 : decode cX12_next 185 = .ok (.iadd, 1) := by decide +kernel
theorem dX12_next_186 : decode cX12_next 186 = .ok (.bipush 48, 2) := by decide +kernel
theorem dX12_next_188 : decode cX12_next 188 = .ok (.isub, 1) := by decide +kernel
theorem dX12_next_189 : decode cX12_next 189 = .ok (.goto 7, 3) := by decide +kernel
theorem dX12_next_192 : decode cX12_next 192 = .ok (.aload_n 0, 1) := by decide +kernel
theorem dX12_next_193 : decode cX12_next 193 = .ok (.getfield 160, 3) := by decide +kernel
theorem dX12_next_196 : decode cX12_next 196 = .ok (.putfield 160, 3) := by decide +kernel
theorem dX12_next_199 : decode cX12_next 199 = .ok (.aload_n 0, 1) := by decide +kernel
theorem dX12_next_200 : decode cX12_next 200 = .ok (.dup, 1) := by decide +kernel
theorem dX12_next_201 : decode cX12_next 201 = .ok (.getfield 142, 3) := by decide +kernel
theorem dX12_next_204 : decode cX12_next 204 = .ok (.iconst 1, 1) := by decide +kernel
theorem dX12_next_205 : decode cX12_next 205 = .ok (.iadd, 1) := by decide +kernel
theorem dX12_next_206 : decode cX12_next 206 = .ok (.putfield 142, 3) := by decide +kernel
theorem dX12_next_209 : decode cX12_next 209 = .ok (.goto (-68), 3) := by decide +kernel
theorem dX12_next_212 : decode cX12_next 212 = .ok (.aload_n 0, 1) := by decide +kernel
theorem dX12_next_213 : decode cX12_next 213 = .ok (.aload_n 0, 1) := by decide +kernel
theorem dX12_next_214 : decode cX12_next 214 = .ok (.getfield 142, 3) := by decide +kernel
theorem dX12_next_217 : decode cX12_next 217 = .ok (.aload_n 0, 1) := by decide +kernel
theorem dX12_next_218 : decode cX12_next 218 = .ok (.getfield 145, 3) := by decide +kernel
theorem dX12_next_221 : decode cX12_next 221 = .ok (.isub, 1) := by decide +kernel
theorem dX12_next_222 : decode cX12_next 222 = .ok (.iconst 2, 1) := by decide +kernel
theorem dX12_next_223 : decode cX12_next 223 = .ok (.if_icmp .le 7, 3) := by decide +kernel
theorem dX12_next_226 : decode cX12_next 226 = .ok (.iconst 4, 1) := by decide +kernel
theorem dX12_next_227 : decode cX12_next 227 = .ok (.goto 4, 3) := by decide +kernel
theorem dX12_next_230 : decode cX12_next 230 = .ok (.iconst 2, 1) := by decide +kernel
theorem dX12_next_231 : decode cX12_next 231 = .ok (.putfield 148, 3) := by decide +kernel
theorem dX12_next_234 : decode cX12_next 234 = .ok (.goto 28, 3) := by decide +kernel
theorem dX12_next_237 : decode cX12_next 237 = .ok (.aload_n 0, 1) := by decide +kernel
theorem dX12_next_238 : decode cX12_next 238 = .ok (.iload_n 1, 1) := by decide +kernel
theorem dX12_next_239 : decode cX12_next 239 = .ok (.bipush 59, 2) := by decide +kernel
theorem dX12_next_241 : decode cX12_next 241 = .ok (.if_icmp .ne 7, 3) := by decide +kernel
theorem dX12_next_244 : decode cX12_next 244 = .ok (.iconst 3, 1) := by decide +kernel
theorem dX12_next_245 : decode cX12_next 245 = .ok (.goto 4, 3) := by decide +kernel
theorem dX12_next_248 : decode cX12_next 248 = .ok (.iconst 4, 1) := by decide +kernel
theorem dX12_next_249 : decode cX12_next 249 = .ok (.putfield 148, 3) := by decide +kernel
theorem dX12_next_252 : decode cX12_next 252 = .ok (.aload_n 0, 1) := by decide +kernel
theorem dX12_next_253 : decode cX12_next 253 = .ok (.dup, 1) := by decide +kernel
theorem dX12_next_254 : decode cX12_next 254 = .ok (.getfield 142, 3) := by decide +kernel
theorem dX12_next_257 : decode cX12_next 257 = .ok (.iconst 1, 1) := by decide +kernel
theorem dX12_next_258 : decode cX12_next 258 = .ok (.iadd, 1) := by decide +kernel
theorem dX12_next_259 : decode cX12_next 259 = .ok (.putfield 142, 3) := by decide +kernel
theorem dX12_next_262 : decode cX12_next 262 = .ok (.return_, 1) := by decide +kernel
theorem dX12_blames_0 : decode cX12_blames 0 = .ok (.aload_n 0, 1) := by decide +kernel
theorem dX12_blames_1 : decode cX12_blames 1 = .ok (.getfield 163, 3) := by decide +kernel
theorem dX12_blames_4 : decode cX12_blames 4 = .ok (.ifCond .eq 4, 3) := by decide +kernel
theorem dX12_blames_7 : decode cX12_blames 7 = .ok (.return_, 1) := by decide +kernel
theorem dX12_blames_8 : decode cX12_blames 8 = .ok (.aload_n 0, 1) := by decide +kernel
theorem dX12_blames_9 : decode cX12_blames 9 = .ok (.aload_n 0, 1) := by decide +kernel
theorem dX12_blames_10 : decode cX12_blames 10 = .ok (.getfield 148, 3) := by decide +kernel
theorem dX12_blames_13 : decode cX12_blames 13 = .ok (.iconst 4, 1) := by decide +kernel
theorem dX12_blames_14 : decode cX12_blames 14 = .ok (.if_icmp .ne 7, 3) := by decide +kernel
theorem dX12_blames_17 : decode cX12_blames 17 = .ok (.iconst 1, 1) := by decide +kernel
theorem dX12_blames_18 : decode cX12_blames 18 = .ok (.goto 4, 3) := by decide +kernel
theorem dX12_blames_21 : decode cX12_blames 21 = .ok (.iload_n 1, 1) := by decide +kernel
theorem dX12_blames_22 : decode cX12_blames 22 = .ok (.putfield 163, 3) := by decide +kernel
theorem dX12_blames_25 : decode cX12_blames 25 = .ok (.aload_n 0, 1) := by decide +kernel
theorem dX12_blames_26 : decode cX12_blames 26 = .ok (.aload_n 0, 1) := by decide +kernel
theorem dX12_blames_27 : decode cX12_blames 27 = .ok (.getfield 145, 3) := by decide +kernel
theorem dX12_blames_30 : decode cX12_blames 30 = .ok (.putfield 166, 3) := by decide +kernel
theorem dX12_blames_33 : decode cX12_blames 33 = .ok (.return_, 1) := by decide +kernel
theorem dX12_isWord_0 : decode cX12_isWord 0 = .ok (.aload_n 0, 1) := by decide +kernel
theorem dX12_isWord_1 : decode cX12_isWord 1 = .ok (.getfield 163, 3) := by decide +kernel
theorem dX12_isWord_4 : decode cX12_isWord 4 = .ok (.ifCond .ne 31, 3) := by decide +kernel
theorem dX12_isWord_7 : decode cX12_isWord 7 = .ok (.aload_n 0, 1) := by decide +kernel
theorem dX12_isWord_8 : decode cX12_isWord 8 = .ok (.getfield 148, 3) := by decide +kernel
theorem dX12_isWord_11 : decode cX12_isWord 11 = .ok (.iconst 1, 1) := by decide +kernel
theorem dX12_isWord_12 : decode cX12_isWord 12 = .ok (.if_icmp .ne 23, 3) := by decide +kernel
theorem dX12_isWord_15 : decode cX12_isWord 15 = .ok (.aload_n 0, 1) := by decide +kernel
theorem dX12_isWord_16 : decode cX12_isWord 16 = .ok (.getfield 142, 3) := by decide +kernel
theorem dX12_isWord_19 : decode cX12_isWord 19 = .ok (.aload_n 0, 1) := by decide +kernel
theorem dX12_isWord_20 : decode cX12_isWord 20 = .ok (.getfield 145, 3) := by decide +kernel
theorem dX12_isWord_23 : decode cX12_isWord 23 = .ok (.isub, 1) := by decide +kernel
theorem dX12_isWord_24 : decode cX12_isWord 24 = .ok (.aload_n 1, 1) := by decide +kernel
theorem dX12_isWord_25 : decode cX12_isWord 25 = .ok (.invokevirtual 169, 3) := by decide +kernel
theorem dX12_isWord_28 : decode cX12_isWord 28 = .ok (.if_icmp .ne 7, 3) := by decide +kernel
theorem dX12_isWord_31 : decode cX12_isWord 31 = .ok (.iconst 1, 1) := by decide +kernel
theorem dX12_isWord_32 : decode cX12_isWord 32 = .ok (.goto 4, 3) := by decide +kernel
theorem dX12_isWord_35 : decode cX12_isWord 35 = .ok (.iconst 0, 1) := by decide +kernel
theorem dX12_isWord_36 : decode cX12_isWord 36 = .ok (.istore_n 2, 1) := by decide +kernel
theorem dX12_isWord_37 : decode cX12_isWord 37 = .ok (.iconst 0, 1) := by decide +kernel
theorem dX12_isWord_38 : decode cX12_isWord 38 = .ok (.istore_n 3, 1) := by decide +kernel
theorem dX12_isWord_39 : decode cX12_isWord 39 = .ok (.iload_n 2, 1) := by decide +kernel
theorem dX12_isWord_40 : decode cX12_isWord 40 = .ok (.ifCond .eq 42, 3) := by decide +kernel
theorem dX12_isWord_43 : decode cX12_isWord 43 = .ok (.iload_n 3, 1) := by decide +kernel
theorem dX12_isWord_44 : decode cX12_isWord 44 = .ok (.aload_n 1, 1) := by decide +kernel
theorem dX12_isWord_45 : decode cX12_isWord 45 = .ok (.invokevirtual 169, 3) := by decide +kernel
theorem dX12_isWord_48 : decode cX12_isWord 48 = .ok (.if_icmp .ge 34, 3) := by decide +kernel
theorem dX12_isWord_51 : decode cX12_isWord 51 = .ok (.aload_n 0, 1) := by decide +kernel
theorem dX12_isWord_52 : decode cX12_isWord 52 = .ok (.getfield 20, 3) := by decide +kernel
theorem dX12_isWord_55 : decode cX12_isWord 55 = .ok (.aload_n 0, 1) := by decide +kernel
theorem dX12_isWord_56 : decode cX12_isWord 56 = .ok (.getfield 145, 3) := by decide +kernel
theorem dX12_isWord_59 : decode cX12_isWord 59 = .ok (.iload_n 3, 1) := by decide +kernel
theorem dX12_isWord_60 : decode cX12_isWord 60 = .ok (.iadd, 1) := by decide +kernel
theorem dX12_isWord_61 : decode cX12_isWord 61 = .ok (.iaload, 1) := by decide +kernel
theorem dX12_isWord_62 : decode cX12_isWord 62 = .ok (.aload_n 1, 1) := by decide +kernel
theorem dX12_isWord_63 : decode cX12_isWord 63 = .ok (.iload_n 3, 1) := by decide +kernel
theorem dX12_isWord_64 : decode cX12_isWord 64 = .ok (.invokevirtual 175, 3) := by decide +kernel
theorem dX12_isWord_67 : decode cX12_isWord 67 = .ok (.if_icmp .ne 7, 3) := by decide +kernel
theorem dX12_isWord_70 : decode cX12_isWord 70 = .ok (.iconst 1, 1) := by decide +kernel
theorem dX12_isWord_71 : decode cX12_isWord 71 = .ok (.goto 4, 3) := by decide +kernel
theorem dX12_isWord_74 : decode cX12_isWord 74 = .ok (.iconst 0, 1) := by decide +kernel
theorem dX12_isWord_75 : decode cX12_isWord 75 = .ok (.istore_n 2, 1) := by decide +kernel
theorem dX12_isWord_76 : decode cX12_isWord 76 = .ok (.iinc 3 1, 3) := by decide +kernel
theorem dX12_isWord_79 : decode cX12_isWord 79 = .ok (.goto (-40), 3) := by decide +kernel
theorem dX12_isWord_82 : decode cX12_isWord 82 = .ok (.iload_n 2, 1) := by decide +kernel
theorem dX12_isWord_83 : decode cX12_isWord 83 = .ok (.ireturn, 1) := by decide +kernel
theorem dX12_needs_0 : decode cX12_needs 0 = .ok (.aload_n 0, 1) := by decide +kernel
theorem dX12_needs_1 : decode cX12_needs 1 = .ok (.aload_n 1, 1) := by decide +kernel
theorem dX12_needs_2 : decode cX12_needs 2 = .ok (.invokevirtual 179, 3) := by decide +kernel
theorem dX12_needs_5 : decode cX12_needs 5 = .ok (.ifCond .ne 8, 3) := by decide +kernel
theorem dX12_needs_8 : decode cX12_needs 8 = .ok (.aload_n 0, 1) := by decide +kernel
theorem dX12_needs_9 : decode cX12_needs 9 = .ok (.iconst 2, 1) := by decide +kernel
theorem dX12_needs_10 : decode cX12_needs 10 = .ok (.invokevirtual 183, 3) := by decide +kernel
theorem dX12_needs_13 : decode cX12_needs 13 = .ok (.aload_n 0, 1) := by decide +kernel
theorem dX12_needs_14 : decode cX12_needs 14 = .ok (.getfield 163, 3) := by decide +kernel
theorem dX12_needs_17 : decode cX12_needs 17 = .ok (.ifCond .ne 7, 3) := by decide +kernel
theorem dX12_needs_20 : decode cX12_needs 20 = .ok (.aload_n 0, 1) := by decide +kernel
theorem dX12_needs_21 : decode cX12_needs 21 = .ok (.invokevirtual 187, 3) := by decide +kernel
theorem dX12_needs_24 : decode cX12_needs 24 = .ok (.return_, 1) := by decide +kernel
theorem dX12_number_0 : decode cX12_number 0 = .ok (.aload_n 0, 1) := by decide +kernel
theorem dX12_number_1 : decode cX12_number 1 = .ok (.getfield 148, 3) := by decide +kernel
theorem dX12_number_4 : decode cX12_number 4 = .ok (.iconst 2, 1) := by decide +kernel
theorem dX12_number_5 : decode cX12_number 5 = .ok (.if_icmp .eq 11, 3) := by decide +kernel
theorem dX12_number_8 : decode cX12_number 8 = .ok (.aload_n 0, 1) := by decide +kernel
theorem dX12_number_9 : decode cX12_number 9 = .ok (.iconst 2, 1) := by decide +kernel
theorem dX12_number_10 : decode cX12_number 10 = .ok (.invokevirtual 183, 3) := by decide +kernel
theorem dX12_number_13 : decode cX12_number 13 = .ok (.goto 23, 3) := by decide +kernel
theorem dX12_number_16 : decode cX12_number 16 = .ok (.aload_n 0, 1) := by decide +kernel
theorem dX12_number_17 : decode cX12_number 17 = .ok (.getfield 160, 3) := by decide +kernel
theorem dX12_number_20 : decode cX12_number 20 = .ok (.i2l, 1) := by decide +kernel
theorem dX12_number_21 : decode cX12_number 21 = .ok (.iload_n 1, 1) := by decide +kernel
theorem dX12_number_22 : decode cX12_number 22 = .ok (.i2l, 1) := by decide +kernel
theorem dX12_number_23 : decode cX12_number 23 = .ok (.iload_n 2, 1) := by decide +kernel
theorem dX12_number_24 : decode cX12_number 24 = .ok (.i2l, 1) := by decide +kernel
theorem dX12_number_25 : decode cX12_number 25 = .ok (.invokestatic 83, 3) := by decide +kernel
theorem dX12_number_28 : decode cX12_number 28 = .ok (.ifCond .ne 8, 3) := by decide +kernel
theorem dX12_number_31 : decode cX12_number 31 = .ok (.aload_n 0, 1) := by decide +kernel
theorem dX12_number_32 : decode cX12_number 32 = .ok (.iload_n 3, 1) := by decide +kernel
theorem dX12_number_33 : decode cX12_number 33 = .ok (.invokevirtual 183, 3) := by decide +kernel
theorem dX12_number_36 : decode cX12_number 36 = .ok (.aload_n 0, 1) := by decide +kernel
theorem dX12_number_37 : decode cX12_number 37 = .ok (.getfield 160, 3) := by decide +kernel
theorem dX12_number_40 : decode cX12_number 40 = .ok (.istore 4, 2) := by decide +kernel
theorem dX12_number_42 : decode cX12_number 42 = .ok (.aload_n 0, 1) := by decide +kernel
theorem dX12_number_43 : decode cX12_number 43 = .ok (.getfield 163, 3) := by decide +kernel
theorem dX12_number_46 : decode cX12_number 46 = .ok (.ifCond .ne 7, 3) := by decide +kernel
theorem dX12_number_49 : decode cX12_number 49 = .ok (.aload_n 0, 1) := by decide +kernel
theorem dX12_number_50 : decode cX12_number 50 = .ok (.invokevirtual 187, 3) := by decide +kernel
theorem dX12_number_53 : decode cX12_number 53 = .ok (.iload 4, 2) := by decide +kernel
theorem dX12_number_55 : decode cX12_number 55 = .ok (.ireturn, 1) := by decide +kernel
theorem dX12_readGoal_0 : decode cX12_readGoal 0 = .ok (.aload_n 0, 1) := by decide +kernel
theorem dX12_readGoal_1 : decode cX12_readGoal 1 = .ok (.ldc 190, 2) := by decide +kernel
theorem dX12_readGoal_3 : decode cX12_readGoal 3 = .ok (.invokevirtual 179, 3) := by decide +kernel
theorem dX12_readGoal_6 : decode cX12_readGoal 6 = .ok (.ifCond .eq 7, 3) := by decide +kernel
theorem dX12_readGoal_9 : decode cX12_readGoal 9 = .ok (.iconst 0, 1) := by decide +kernel
theorem dX12_readGoal_10 : decode cX12_readGoal 10 = .ok (.goto 43, 3) := by decide +kernel
theorem dX12_readGoal_13 : decode cX12_readGoal 13 = .ok (.aload_n 0, 1) := by decide +kernel
theorem dX12_readGoal_14 : decode cX12_readGoal 14 = .ok (.ldc 191, 2) := by decide +kernel
theorem dX12_readGoal_16 : decode cX12_readGoal 16 = .ok (.invokevirtual 179, 3) := by decide +kernel
theorem dX12_readGoal_19 : decode cX12_readGoal 19 = .ok (.ifCond .eq 7, 3) := by decide +kernel
theorem dX12_readGoal_22 : decode cX12_readGoal 22 = .ok (.iconst 1, 1) := by decide +kernel
theorem dX12_readGoal_23 : decode cX12_readGoal 23 = .ok (.goto 30, 3) := by decide +kernel
theorem dX12_readGoal_26 : decode cX12_readGoal 26 = .ok (.aload_n 0, 1) := by decide +kernel
theorem dX12_readGoal_27 : decode cX12_readGoal 27 = .ok (.ldc 193, 2) := by decide +kernel
theorem dX12_readGoal_29 : decode cX12_readGoal 29 = .ok (.invokevirtual 179, 3) := by decide +kernel
theorem dX12_readGoal_32 : decode cX12_readGoal 32 = .ok (.ifCond .eq 7, 3) := by decide +kernel
theorem dX12_readGoal_35 : decode cX12_readGoal 35 = .ok (.iconst 2, 1) := by decide +kernel
theorem dX12_readGoal_36 : decode cX12_readGoal 36 = .ok (.goto 17, 3) := by decide +kernel
theorem dX12_readGoal_39 : decode cX12_readGoal 39 = .ok (.aload_n 0, 1) := by decide +kernel
theorem dX12_readGoal_40 : decode cX12_readGoal 40 = .ok (.ldc 195, 2) := by decide +kernel
theorem dX12_readGoal_42 : decode cX12_readGoal 42 = .ok (.invokevirtual 179, 3) := by decide +kernel
theorem dX12_readGoal_45 : decode cX12_readGoal 45 = .ok (.ifCond .eq 7, 3) := by decide +kernel
theorem dX12_readGoal_48 : decode cX12_readGoal 48 = .ok (.iconst 3, 1) := by decide +kernel
theorem dX12_readGoal_49 : decode cX12_readGoal 49 = .ok (.goto 4, 3) := by decide +kernel
theorem dX12_readGoal_52 : decode cX12_readGoal 52 = .ok (.iconst (-1), 1) := by decide +kernel
theorem dX12_readGoal_53 : decode cX12_readGoal 53 = .ok (.istore_n 2, 1) := by decide +kernel
theorem dX12_readGoal_54 : decode cX12_readGoal 54 = .ok (.iload_n 2, 1) := by decide +kernel
theorem dX12_readGoal_55 : decode cX12_readGoal 55 = .ok (.iconst (-1), 1) := by decide +kernel
theorem dX12_readGoal_56 : decode cX12_readGoal 56 = .ok (.if_icmp .ne 9, 3) := by decide +kernel
theorem dX12_readGoal_59 : decode cX12_readGoal 59 = .ok (.aload_n 0, 1) := by decide +kernel
theorem dX12_readGoal_60 : decode cX12_readGoal 60 = .ok (.iconst 2, 1) := by decide +kernel
theorem dX12_readGoal_61 : decode cX12_readGoal 61 = .ok (.invokevirtual 183, 3) := by decide +kernel
theorem dX12_readGoal_64 : decode cX12_readGoal 64 = .ok (.return_, 1) := by decide +kernel
theorem dX12_readGoal_65 : decode cX12_readGoal 65 = .ok (.aload_n 0, 1) := by decide +kernel
theorem dX12_readGoal_66 : decode cX12_readGoal 66 = .ok (.invokevirtual 187, 3) := by decide +kernel
theorem dX12_readGoal_69 : decode cX12_readGoal 69 = .ok (.aload_n 0, 1) := by decide +kernel
theorem dX12_readGoal_70 : decode cX12_readGoal 70 = .ok (.getfield 23, 3) := by decide +kernel
theorem dX12_readGoal_73 : decode cX12_readGoal 73 = .ok (.iload_n 1, 1) := by decide +kernel
theorem dX12_readGoal_74 : decode cX12_readGoal 74 = .ok (.iload_n 2, 1) := by decide +kernel
theorem dX12_readGoal_75 : decode cX12_readGoal 75 = .ok (.iastore, 1) := by decide +kernel
theorem dX12_readGoal_76 : decode cX12_readGoal 76 = .ok (.aload_n 0, 1) := by decide +kernel
theorem dX12_readGoal_77 : decode cX12_readGoal 77 = .ok (.getfield 23, 3) := by decide +kernel
theorem dX12_readGoal_80 : decode cX12_readGoal 80 = .ok (.iload_n 1, 1) := by decide +kernel
theorem dX12_readGoal_81 : decode cX12_readGoal 81 = .ok (.iconst 1, 1) := by decide +kernel
theorem dX12_readGoal_82 : decode cX12_readGoal 82 = .ok (.iadd, 1) := by decide +kernel
theorem dX12_readGoal_83 : decode cX12_readGoal 83 = .ok (.iload_n 2, 1) := by decide +kernel
theorem dX12_readGoal_84 : decode cX12_readGoal 84 = .ok (.iconst 2, 1) := by decide +kernel
theorem dX12_readGoal_85 : decode cX12_readGoal 85 = .ok (.if_icmp .ne 14, 3) := by decide +kernel
theorem dX12_readGoal_88 : decode cX12_readGoal 88 = .ok (.aload_n 0, 1) := by decide +kernel
theorem dX12_readGoal_89 : decode cX12_readGoal 89 = .ok (.iconst 0, 1) := by decide +kernel
theorem dX12_readGoal_90 : decode cX12_readGoal 90 = .ok (.bipush 7, 2) := by decide +kernel
theorem dX12_readGoal_92 : decode cX12_readGoal 92 = .ok (.iconst 3, 1) := by decide +kernel
theorem dX12_readGoal_93 : decode cX12_readGoal 93 = .ok (.invokevirtual 197, 3) := by decide +kernel
theorem dX12_readGoal_96 : decode cX12_readGoal 96 = .ok (.goto 4, 3) := by decide +kernel
theorem dX12_readGoal_99 : decode cX12_readGoal 99 = .ok (.iconst 0, 1) := by decide +kernel
theorem dX12_readGoal_100 : decode cX12_readGoal 100 = .ok (.iastore, 1) := by decide +kernel
theorem dX12_readGoal_101 : decode cX12_readGoal 101 = .ok (.return_, 1) := by decide +kernel
theorem dX12_readGate_0 : decode cX12_readGate 0 = .ok (.bipush 7, 2) := by decide +kernel
theorem dX12_readGate_2 : decode cX12_readGate 2 = .ok (.iload_n 1, 1) := by decide +kernel
theorem dX12_readGate_3 : decode cX12_readGate 3 = .ok (.imul, 1) := by decide +kernel
theorem dX12_readGate_4 : decode cX12_readGate 4 = .ok (.istore_n 2, 1) := by decide +kernel
theorem dX12_readGate_5 : decode cX12_readGate 5 = .ok (.aload_n 0, 1) := by decide +kernel
theorem dX12_readGate_6 : decode cX12_readGate 6 = .ok (.ldc 200, 2) := by decide +kernel
theorem dX12_readGate_8 : decode cX12_readGate 8 = .ok (.invokevirtual 202, 3) := by decide +kernel
theorem dX12_readGate_11 : decode cX12_readGate 11 = .ok (.aload_n 0, 1) := by decide +kernel
theorem dX12_readGate_12 : decode cX12_readGate 12 = .ok (.ldc 206, 2) := by decide +kernel
theorem dX12_readGate_14 : decode cX12_readGate 14 = .ok (.invokevirtual 179, 3) := by decide +kernel
theorem dX12_readGate_17 : decode cX12_readGate 17 = .ok (.ifCond .eq 7, 3) := by decide +kernel
theorem dX12_readGate_20 : decode cX12_readGate 20 = .ok (.iconst 0, 1) := by decide +kernel
theorem dX12_readGate_21 : decode cX12_readGate 21 = .ok (.goto 30, 3) := by decide +kernel
theorem dX12_readGate_24 : decode cX12_readGate 24 = .ok (.aload_n 0, 1) := by decide +kernel
theorem dX12_readGate_25 : decode cX12_readGate 25 = .ok (.ldc 208, 2) := by decide +kernel
theorem dX12_readGate_27 : decode cX12_readGate 27 = .ok (.invokevirtual 179, 3) := by decide +kernel
theorem dX12_readGate_30 : decode cX12_readGate 30 = .ok (.ifCond .eq 7, 3) := by decide +kernel
theorem dX12_readGate_33 : decode cX12_readGate 33 = .ok (.iconst 1, 1) := by decide +kernel
theorem dX12_readGate_34 : decode cX12_readGate 34 = .ok (.goto 17, 3) := by decide +kernel
theorem dX12_readGate_37 : decode cX12_readGate 37 = .ok (.aload_n 0, 1) := by decide +kernel
theorem dX12_readGate_38 : decode cX12_readGate 38 = .ok (.ldc 210, 2) := by decide +kernel
theorem dX12_readGate_40 : decode cX12_readGate 40 = .ok (.invokevirtual 179, 3) := by decide +kernel
theorem dX12_readGate_43 : decode cX12_readGate 43 = .ok (.ifCond .eq 7, 3) := by decide +kernel
theorem dX12_readGate_46 : decode cX12_readGate 46 = .ok (.iconst 2, 1) := by decide +kernel
theorem dX12_readGate_47 : decode cX12_readGate 47 = .ok (.goto 4, 3) := by decide +kernel
theorem dX12_readGate_50 : decode cX12_readGate 50 = .ok (.iconst (-1), 1) := by decide +kernel
theorem dX12_readGate_51 : decode cX12_readGate 51 = .ok (.istore_n 3, 1) := by decide +kernel
theorem dX12_readGate_52 : decode cX12_readGate 52 = .ok (.iload_n 3, 1) := by decide +kernel
theorem dX12_readGate_53 : decode cX12_readGate 53 = .ok (.iconst (-1), 1) := by decide +kernel
theorem dX12_readGate_54 : decode cX12_readGate 54 = .ok (.if_icmp .ne 8, 3) := by decide +kernel
theorem dX12_readGate_57 : decode cX12_readGate 57 = .ok (.aload_n 0, 1) := by decide +kernel
theorem dX12_readGate_58 : decode cX12_readGate 58 = .ok (.iconst 2, 1) := by decide +kernel
theorem dX12_readGate_59 : decode cX12_readGate 59 = .ok (.invokevirtual 183, 3) := by decide +kernel
theorem dX12_readGate_62 : decode cX12_readGate 62 = .ok (.aload_n 0, 1) := by decide +kernel
theorem dX12_readGate_63 : decode cX12_readGate 63 = .ok (.getfield 163, 3) := by decide +kernel
theorem dX12_readGate_66 : decode cX12_readGate 66 = .ok (.ifCond .eq 4, 3) := by decide +kernel
theorem dX12_readGate_69 : decode cX12_readGate 69 = .ok (.return_, 1) := by decide +kernel
theorem dX12_readGate_70 : decode cX12_readGate 70 = .ok (.aload_n 0, 1) := by decide +kernel
theorem dX12_readGate_71 : decode cX12_readGate 71 = .ok (.invokevirtual 187, 3) := by decide +kernel
theorem dX12_readGate_74 : decode cX12_readGate 74 = .ok (.aload_n 0, 1) := by decide +kernel
theorem dX12_readGate_75 : decode cX12_readGate 75 = .ok (.getfield 23, 3) := by decide +kernel
theorem dX12_readGate_78 : decode cX12_readGate 78 = .ok (.iload_n 2, 1) := by decide +kernel
theorem dX12_readGate_79 : decode cX12_readGate 79 = .ok (.iload_n 3, 1) := by decide +kernel
theorem dX12_readGate_80 : decode cX12_readGate 80 = .ok (.iastore, 1) := by decide +kernel
theorem dX12_readGate_81 : decode cX12_readGate 81 = .ok (.aload_n 0, 1) := by decide +kernel
theorem dX12_readGate_82 : decode cX12_readGate 82 = .ok (.getfield 23, 3) := by decide +kernel
theorem dX12_readGate_85 : decode cX12_readGate 85 = .ok (.iload_n 2, 1) := by decide +kernel
theorem dX12_readGate_86 : decode cX12_readGate 86 = .ok (.iconst 1, 1) := by decide +kernel
theorem dX12_readGate_87 : decode cX12_readGate 87 = .ok (.iadd, 1) := by decide +kernel
theorem dX12_readGate_88 : decode cX12_readGate 88 = .ok (.aload_n 0, 1) := by decide +kernel
theorem dX12_readGate_89 : decode cX12_readGate 89 = .ok (.iconst 0, 1) := by decide +kernel
theorem dX12_readGate_90 : decode cX12_readGate 90 = .ok (.bipush 99, 2) := by decide +kernel
theorem dX12_readGate_92 : decode cX12_readGate 92 = .ok (.iconst 2, 1) := by decide +kernel
theorem dX12_readGate_93 : decode cX12_readGate 93 = .ok (.invokevirtual 197, 3) := by decide +kernel
theorem dX12_readGate_96 : decode cX12_readGate 96 = .ok (.iastore, 1) := by decide +kernel
theorem dX12_readGate_97 : decode cX12_readGate 97 = .ok (.aload_n 0, 1) := by decide +kernel
theorem dX12_readGate_98 : decode cX12_readGate 98 = .ok (.getfield 23, 3) := by decide +kernel
theorem dX12_readGate_101 : decode cX12_readGate 101 = .ok (.iload_n 2, 1) := by decide +kernel
theorem dX12_readGate_102 : decode cX12_readGate 102 = .ok (.iconst 2, 1) := by decide +kernel
theorem dX12_readGate_103 : decode cX12_readGate 103 = .ok (.iadd, 1) := by decide +kernel
theorem dX12_readGate_104 : decode cX12_readGate 104 = .ok (.aload_n 0, 1) := by decide +kernel
theorem dX12_readGate_105 : decode cX12_readGate 105 = .ok (.aload_n 0, 1) := by decide +kernel
theorem dX12_readGate_106 : decode cX12_readGate 106 = .ok (.getfield 23, 3) := by decide +kernel
theorem dX12_readGate_109 : decode cX12_readGate 109 = .ok (.iload_n 2, 1) := by decide +kernel
theorem dX12_readGate_110 : decode cX12_readGate 110 = .ok (.iconst 1, 1) := by decide +kernel
theorem dX12_readGate_111 : decode cX12_readGate 111 = .ok (.iadd, 1) := by decide +kernel
theorem dX12_readGate_112 : decode cX12_readGate 112 = .ok (.iaload, 1) := by decide +kernel
theorem dX12_readGate_113 : decode cX12_readGate 113 = .ok (.bipush 99, 2) := by decide +kernel
theorem dX12_readGate_115 : decode cX12_readGate 115 = .ok (.iconst 4, 1) := by decide +kernel
theorem dX12_readGate_116 : decode cX12_readGate 116 = .ok (.invokevirtual 197, 3) := by decide +kernel
theorem dX12_readGate_119 : decode cX12_readGate 119 = .ok (.iastore, 1) := by decide +kernel
theorem dX12_readGate_120 : decode cX12_readGate 120 = .ok (.aload_n 0, 1) := by decide +kernel
theorem dX12_readGate_121 : decode cX12_readGate 121 = .ok (.ldc 212, 2) := by decide +kernel
theorem dX12_readGate_123 : decode cX12_readGate 123 = .ok (.invokevirtual 202, 3) := by decide +kernel
theorem dX12_readGate_126 : decode cX12_readGate 126 = .ok (.aload_n 0, 1) := by decide +kernel
theorem dX12_readGate_127 : decode cX12_readGate 127 = .ok (.getfield 163, 3) := by decide +kernel
theorem dX12_readGate_130 : decode cX12_readGate 130 = .ok (.ifCond .ne 10, 3) := by decide +kernel
theorem dX12_readGate_133 : decode cX12_readGate 133 = .ok (.aload_n 0, 1) := by decide +kernel
theorem dX12_readGate_134 : decode cX12_readGate 134 = .ok (.iload_n 2, 1) := by decide +kernel
theorem dX12_readGate_135 : decode cX12_readGate 135 = .ok (.iconst 3, 1) := by decide +kernel
theorem dX12_readGate_136 : decode cX12_readGate 136 = .ok (.iadd, 1) := by decide +kernel
theorem dX12_readGate_137 : decode cX12_readGate 137 = .ok (.invokevirtual 214, 3) := by decide +kernel
theorem dX12_readGate_140 : decode cX12_readGate 140 = .ok (.aload_n 0, 1) := by decide +kernel
theorem dX12_readGate_141 : decode cX12_readGate 141 = .ok (.ldc 217, 2) := by decide +kernel
theorem dX12_readGate_143 : decode cX12_readGate 143 = .ok (.invokevirtual 202, 3) := by decide +kernel
theorem dX12_readGate_146 : decode cX12_readGate 146 = .ok (.aload_n 0, 1) := by decide +kernel
theorem dX12_readGate_147 : decode cX12_readGate 147 = .ok (.getfield 163, 3) := by decide +kernel
theorem dX12_readGate_150 : decode cX12_readGate 150 = .ok (.ifCond .ne 10, 3) := by decide +kernel
theorem dX12_readGate_153 : decode cX12_readGate 153 = .ok (.aload_n 0, 1) := by decide +kernel
theorem dX12_readGate_154 : decode cX12_readGate 154 = .ok (.iload_n 2, 1) := by decide +kernel
theorem dX12_readGate_155 : decode cX12_readGate 155 = .ok (.iconst 5, 1) := by decide +kernel
theorem dX12_readGate_156 : decode cX12_readGate 156 = .ok (.iadd, 1) := by decide +kernel
theorem dX12_readGate_157 : decode cX12_readGate 157 = .ok (.invokevirtual 214, 3) := by decide +kernel
theorem dX12_readGate_160 : decode cX12_readGate 160 = .ok (.aload_n 0, 1) := by decide +kernel
theorem dX12_readGate_161 : decode cX12_readGate 161 = .ok (.getfield 163, 3) := by decide +kernel
theorem dX12_readGate_164 : decode cX12_readGate 164 = .ok (.ifCond .ne 16, 3) := by decide +kernel
theorem dX12_readGate_167 : decode cX12_readGate 167 = .ok (.aload_n 0, 1) := by decide +kernel
theorem dX12_readGate_168 : decode cX12_readGate 168 = .ok (.getfield 148, 3) := by decide +kernel
theorem dX12_readGate_171 : decode cX12_readGate 171 = .ok (.iconst 3, 1) := by decide +kernel
theorem dX12_readGate_172 : decode cX12_readGate 172 = .ok (.if_icmp .eq 8, 3) := by decide +kernel
theorem dX12_readGate_175 : decode cX12_readGate 175 = .ok (.aload_n 0, 1) := by decide +kernel
theorem dX12_readGate_176 : decode cX12_readGate 176 = .ok (.iconst 2, 1) := by decide +kernel
theorem dX12_readGate_177 : decode cX12_readGate 177 = .ok (.invokevirtual 183, 3) := by decide +kernel
theorem dX12_readGate_180 : decode cX12_readGate 180 = .ok (.aload_n 0, 1) := by decide +kernel
theorem dX12_readGate_181 : decode cX12_readGate 181 = .ok (.getfield 163, 3) := by decide +kernel
theorem dX12_readGate_184 : decode cX12_readGate 184 = .ok (.ifCond .ne 7, 3) := by decide +kernel
theorem dX12_readGate_187 : decode cX12_readGate 187 = .ok (.aload_n 0, 1) := by decide +kernel
theorem dX12_readGate_188 : decode cX12_readGate 188 = .ok (.invokevirtual 187, 3) := by decide +kernel
theorem dX12_readGate_191 : decode cX12_readGate 191 = .ok (.return_, 1) := by decide +kernel
theorem dX12_text_0 : decode cX12_text 0 = .ok (.aload_n 0, 1) := by decide +kernel
theorem dX12_text_1 : decode cX12_text 1 = .ok (.iconst 0, 1) := by decide +kernel
theorem dX12_text_2 : decode cX12_text 2 = .ok (.putfield 80, 3) := by decide +kernel
theorem dX12_text_5 : decode cX12_text 5 = .ok (.iload_n 1, 1) := by decide +kernel
theorem dX12_text_6 : decode cX12_text 6 = .ok (.i2l, 1) := by decide +kernel
theorem dX12_text_7 : decode cX12_text 7 = .ok (.lconst 0, 1) := by decide +kernel
theorem dX12_text_8 : decode cX12_text 8 = .ok (.aload_n 0, 1) := by decide +kernel
theorem dX12_text_9 : decode cX12_text 9 = .ok (.getfield 136, 3) := by decide +kernel
theorem dX12_text_12 : decode cX12_text 12 = .ok (.i2l, 1) := by decide +kernel
theorem dX12_text_13 : decode cX12_text 13 = .ok (.invokestatic 83, 3) := by decide +kernel
theorem dX12_text_16 : decode cX12_text 16 = .ok (.ifCond .ne 9, 3) := by decide +kernel
theorem dX12_text_19 : decode cX12_text 19 = .ok (.aload_n 0, 1) := by decide +kernel
theorem dX12_text_20 : decode cX12_text 20 = .ok (.iconst 1, 1) := by decide +kernel
theorem dX12_text_21 : decode cX12_text 21 = .ok (.invokevirtual 95, 3) := by decide +kernel
theorem dX12_text_24 : decode cX12_text 24 = .ok (.ireturn, 1) := by decide +kernel
theorem dX12_text_25 : decode cX12_text 25 = .ok (.aload_n 0, 1) := by decide +kernel
theorem dX12_text_26 : decode cX12_text 26 = .ok (.iload_n 1, 1) := by decide +kernel
theorem dX12_text_27 : decode cX12_text 27 = .ok (.putfield 139, 3) := by decide +kernel
theorem dX12_text_30 : decode cX12_text 30 = .ok (.aload_n 0, 1) := by decide +kernel
theorem dX12_text_31 : decode cX12_text 31 = .ok (.iconst 0, 1) := by decide +kernel
theorem dX12_text_32 : decode cX12_text 32 = .ok (.putfield 136, 3) := by decide +kernel
theorem dX12_text_35 : decode cX12_text 35 = .ok (.aload_n 0, 1) := by decide +kernel
theorem dX12_text_36 : decode cX12_text 36 = .ok (.iconst 0, 1) := by decide +kernel
theorem dX12_text_37 : decode cX12_text 37 = .ok (.putfield 142, 3) := by decide +kernel
theorem dX12_text_40 : decode cX12_text 40 = .ok (.aload_n 0, 1) := by decide +kernel
theorem dX12_text_41 : decode cX12_text 41 = .ok (.iconst 0, 1) := by decide +kernel
theorem dX12_text_42 : decode cX12_text 42 = .ok (.putfield 163, 3) := by decide +kernel
theorem dX12_text_45 : decode cX12_text 45 = .ok (.iconst 0, 1) := by decide +kernel
theorem dX12_text_46 : decode cX12_text 46 = .ok (.istore_n 2, 1) := by decide +kernel
theorem dX12_text_47 : decode cX12_text 47 = .ok (.aload_n 0, 1) := by decide +kernel
theorem dX12_text_48 : decode cX12_text 48 = .ok (.invokevirtual 187, 3) := by decide +kernel
theorem dX12_text_51 : decode cX12_text 51 = .ok (.aload_n 0, 1) := by decide +kernel
theorem dX12_text_52 : decode cX12_text 52 = .ok (.getfield 163, 3) := by decide +kernel
theorem dX12_text_55 : decode cX12_text 55 = .ok (.ifCond .ne 48, 3) := by decide +kernel
theorem dX12_text_58 : decode cX12_text 58 = .ok (.aload_n 0, 1) := by decide +kernel
theorem dX12_text_59 : decode cX12_text 59 = .ok (.getfield 148, 3) := by decide +kernel
theorem dX12_text_62 : decode cX12_text 62 = .ok (.ifCond .eq 41, 3) := by decide +kernel
theorem dX12_text_65 : decode cX12_text 65 = .ok (.iload_n 2, 1) := by decide +kernel
theorem dX12_text_66 : decode cX12_text 66 = .ok (.bipush 8, 2) := by decide +kernel
theorem dX12_text_68 : decode cX12_text 68 = .ok (.if_icmp .ne 24, 3) := by decide +kernel
theorem dX12_text_71 : decode cX12_text 71 = .ok (.aload_n 0, 1) := by decide +kernel
theorem dX12_text_72 : decode cX12_text 72 = .ok (.aload_n 0, 1) := by decide +kernel
theorem dX12_text_73 : decode cX12_text 73 = .ok (.ldc 200, 2) := by decide +kernel
theorem dX12_text_75 : decode cX12_text 75 = .ok (.invokevirtual 179, 3) := by decide +kernel
theorem dX12_text_78 : decode cX12_text 78 = .ok (.ifCond .eq 7, 3) := by decide +kernel
theorem dX12_text_81 : decode cX12_text 81 = .ok (.iconst 5, 1) := by decide +kernel
theorem dX12_text_82 : decode cX12_text 82 = .ok (.goto 4, 3) := by decide +kernel
theorem dX12_text_85 : decode cX12_text 85 = .ok (.iconst 2, 1) := by decide +kernel
theorem dX12_text_86 : decode cX12_text 86 = .ok (.invokevirtual 183, 3) := by decide +kernel
theorem dX12_text_89 : decode cX12_text 89 = .ok (.goto (-38), 3) := by decide +kernel
theorem dX12_text_92 : decode cX12_text 92 = .ok (.aload_n 0, 1) := by decide +kernel
theorem dX12_text_93 : decode cX12_text 93 = .ok (.iload_n 2, 1) := by decide +kernel
theorem dX12_text_94 : decode cX12_text 94 = .ok (.invokevirtual 219, 3) := by decide +kernel
theorem dX12_text_97 : decode cX12_text 97 = .ok (.iinc 2 1, 3) := by decide +kernel
theorem dX12_text_100 : decode cX12_text 100 = .ok (.goto (-49), 3) := by decide +kernel
theorem dX12_text_103 : decode cX12_text 103 = .ok (.aload_n 0, 1) := by decide +kernel
theorem dX12_text_104 : decode cX12_text 104 = .ok (.aload_n 0, 1) := by decide +kernel
theorem dX12_text_105 : decode cX12_text 105 = .ok (.getfield 163, 3) := by decide +kernel
theorem dX12_text_108 : decode cX12_text 108 = .ok (.putfield 222, 3) := by decide +kernel
theorem dX12_text_111 : decode cX12_text 111 = .ok (.aload_n 0, 1) := by decide +kernel
theorem dX12_text_112 : decode cX12_text 112 = .ok (.aload_n 0, 1) := by decide +kernel
theorem dX12_text_113 : decode cX12_text 113 = .ok (.getfield 163, 3) := by decide +kernel
theorem dX12_text_116 : decode cX12_text 116 = .ok (.ifCond .ne 7, 3) := by decide +kernel
theorem dX12_text_119 : decode cX12_text 119 = .ok (.iconst (-1), 1) := by decide +kernel
theorem dX12_text_120 : decode cX12_text 120 = .ok (.goto 7, 3) := by decide +kernel
theorem dX12_text_123 : decode cX12_text 123 = .ok (.aload_n 0, 1) := by decide +kernel
theorem dX12_text_124 : decode cX12_text 124 = .ok (.getfield 166, 3) := by decide +kernel
theorem dX12_text_127 : decode cX12_text 127 = .ok (.putfield 26, 3) := by decide +kernel
theorem dX12_text_130 : decode cX12_text 130 = .ok (.aload_n 0, 1) := by decide +kernel
theorem dX12_text_131 : decode cX12_text 131 = .ok (.getfield 163, 3) := by decide +kernel
theorem dX12_text_134 : decode cX12_text 134 = .ok (.ifCond .eq 11, 3) := by decide +kernel
theorem dX12_text_137 : decode cX12_text 137 = .ok (.bipush (-10), 2) := by decide +kernel
theorem dX12_text_139 : decode cX12_text 139 = .ok (.aload_n 0, 1) := by decide +kernel
theorem dX12_text_140 : decode cX12_text 140 = .ok (.getfield 163, 3) := by decide +kernel
theorem dX12_text_143 : decode cX12_text 143 = .ok (.isub, 1) := by decide +kernel
theorem dX12_text_144 : decode cX12_text 144 = .ok (.ireturn, 1) := by decide +kernel
theorem dX12_text_145 : decode cX12_text 145 = .ok (.aload_n 0, 1) := by decide +kernel
theorem dX12_text_146 : decode cX12_text 146 = .ok (.getfield 9, 3) := by decide +kernel
theorem dX12_text_149 : decode cX12_text 149 = .ok (.iconst 1, 1) := by decide +kernel
theorem dX12_text_150 : decode cX12_text 150 = .ok (.iload_n 2, 1) := by decide +kernel
theorem dX12_text_151 : decode cX12_text 151 = .ok (.iastore, 1) := by decide +kernel
theorem dX12_text_152 : decode cX12_text 152 = .ok (.iconst 0, 1) := by decide +kernel
theorem dX12_text_153 : decode cX12_text 153 = .ok (.istore_n 3, 1) := by decide +kernel
theorem dX12_text_154 : decode cX12_text 154 = .ok (.iload_n 3, 1) := by decide +kernel
theorem dX12_text_155 : decode cX12_text 155 = .ok (.bipush 7, 2) := by decide +kernel
theorem dX12_text_157 : decode cX12_text 157 = .ok (.iload_n 2, 1) := by decide +kernel
theorem dX12_text_158 : decode cX12_text 158 = .ok (.imul, 1) := by decide +kernel
theorem dX12_text_159 : decode cX12_text 159 = .ok (.if_icmp .ge 24, 3) := by decide +kernel
theorem dX12_text_162 : decode cX12_text 162 = .ok (.aload_n 0, 1) := by decide +kernel
theorem dX12_text_163 : decode cX12_text 163 = .ok (.getfield 9, 3) := by decide +kernel
theorem dX12_text_166 : decode cX12_text 166 = .ok (.bipush 103, 2) := by decide +kernel
theorem dX12_text_168 : decode cX12_text 168 = .ok (.iload_n 3, 1) := by decide +kernel
theorem dX12_text_169 : decode cX12_text 169 = .ok (.iadd, 1) := by decide +kernel
theorem dX12_text_170 : decode cX12_text 170 = .ok (.aload_n 0, 1) := by decide +kernel
theorem dX12_text_171 : decode cX12_text 171 = .ok (.getfield 23, 3) := by decide +kernel
theorem dX12_text_174 : decode cX12_text 174 = .ok (.iload_n 3, 1) := by decide +kernel
theorem dX12_text_175 : decode cX12_text 175 = .ok (.iaload, 1) := by decide +kernel
theorem dX12_text_176 : decode cX12_text 176 = .ok (.iastore, 1) := by decide +kernel
theorem dX12_text_177 : decode cX12_text 177 = .ok (.iinc 3 1, 3) := by decide +kernel
theorem dX12_text_180 : decode cX12_text 180 = .ok (.goto (-26), 3) := by decide +kernel
theorem dX12_text_183 : decode cX12_text 183 = .ok (.iload_n 2, 1) := by decide +kernel
theorem dX12_text_184 : decode cX12_text 184 = .ok (.ireturn, 1) := by decide +kernel
theorem dX12_fault_0 : decode cX12_fault 0 = .ok (.aload_n 0, 1) := by decide +kernel
theorem dX12_fault_1 : decode cX12_fault 1 = .ok (.iconst 0, 1) := by decide +kernel
theorem dX12_fault_2 : decode cX12_fault 2 = .ok (.putfield 80, 3) := by decide +kernel
theorem dX12_fault_5 : decode cX12_fault 5 = .ok (.iload_n 1, 1) := by decide +kernel
theorem dX12_fault_6 : decode cX12_fault 6 = .ok (.ifCond .ne 10, 3) := by decide +kernel
theorem dX12_fault_9 : decode cX12_fault 9 = .ok (.aload_n 0, 1) := by decide +kernel
theorem dX12_fault_10 : decode cX12_fault 10 = .ok (.getfield 222, 3) := by decide +kernel
theorem dX12_fault_13 : decode cX12_fault 13 = .ok (.goto 16, 3) := by decide +kernel
theorem dX12_fault_16 : decode cX12_fault 16 = .ok (.iload_n 1, 1) := by decide +kernel
theorem dX12_fault_17 : decode cX12_fault 17 = .ok (.iconst 1, 1) := by decide +kernel
theorem dX12_fault_18 : decode cX12_fault 18 = .ok (.if_icmp .ne 10, 3) := by decide +kernel
theorem dX12_fault_21 : decode cX12_fault 21 = .ok (.aload_n 0, 1) := by decide +kernel
theorem dX12_fault_22 : decode cX12_fault 22 = .ok (.getfield 26, 3) := by decide +kernel
theorem dX12_fault_25 : decode cX12_fault 25 = .ok (.goto 4, 3) := by decide +kernel
theorem dX12_fault_28 : decode cX12_fault 28 = .ok (.iconst (-1), 1) := by decide +kernel
theorem dX12_fault_29 : decode cX12_fault 29 = .ok (.ireturn, 1) := by decide +kernel
theorem dX12_isGate_0 : decode cX12_isGate 0 = .ok (.aload_n 0, 1) := by decide +kernel
theorem dX12_isGate_1 : decode cX12_isGate 1 = .ok (.iconst 1, 1) := by decide +kernel
theorem dX12_isGate_2 : decode cX12_isGate 2 = .ok (.iload_n 1, 1) := by decide +kernel
theorem dX12_isGate_3 : decode cX12_isGate 3 = .ok (.invokevirtual 87, 3) := by decide +kernel
theorem dX12_isGate_6 : decode cX12_isGate 6 = .ok (.ireturn, 1) := by decide +kernel
theorem dX12_gate_0 : decode cX12_gate 0 = .ok (.aload_n 0, 1) := by decide +kernel
theorem dX12_gate_1 : decode cX12_gate 1 = .ok (.iconst 0, 1) := by decide +kernel
theorem dX12_gate_2 : decode cX12_gate 2 = .ok (.putfield 80, 3) := by decide +kernel
theorem dX12_gate_5 : decode cX12_gate 5 = .ok (.aload_n 0, 1) := by decide +kernel
theorem dX12_gate_6 : decode cX12_gate 6 = .ok (.iload_n 1, 1) := by decide +kernel
theorem dX12_gate_7 : decode cX12_gate 7 = .ok (.invokevirtual 225, 3) := by decide +kernel
theorem dX12_gate_10 : decode cX12_gate 10 = .ok (.ifCond .ne 9, 3) := by decide +kernel
theorem dX12_gate_13 : decode cX12_gate 13 = .ok (.aload_n 0, 1) := by decide +kernel
theorem dX12_gate_14 : decode cX12_gate 14 = .ok (.iconst 1, 1) := by decide +kernel
theorem dX12_gate_15 : decode cX12_gate 15 = .ok (.invokevirtual 95, 3) := by decide +kernel
theorem dX12_gate_18 : decode cX12_gate 18 = .ok (.ireturn, 1) := by decide +kernel
theorem dX12_gate_19 : decode cX12_gate 19 = .ok (.iload_n 2, 1) := by decide +kernel
theorem dX12_gate_20 : decode cX12_gate 20 = .ok (.i2l, 1) := by decide +kernel
theorem dX12_gate_21 : decode cX12_gate 21 = .ok (.lconst 0, 1) := by decide +kernel
theorem dX12_gate_22 : decode cX12_gate 22 = .ok (.ldc2_w 103, 3) := by decide +kernel
theorem dX12_gate_25 : decode cX12_gate 25 = .ok (.invokestatic 83, 3) := by decide +kernel
theorem dX12_gate_28 : decode cX12_gate 28 = .ok (.ifCond .eq 20, 3) := by decide +kernel
theorem dX12_gate_31 : decode cX12_gate 31 = .ok (.aload_n 0, 1) := by decide +kernel
theorem dX12_gate_32 : decode cX12_gate 32 = .ok (.getfield 9, 3) := by decide +kernel
theorem dX12_gate_35 : decode cX12_gate 35 = .ok (.bipush 103, 2) := by decide +kernel
theorem dX12_gate_37 : decode cX12_gate 37 = .ok (.bipush 7, 2) := by decide +kernel
theorem dX12_gate_39 : decode cX12_gate 39 = .ok (.iload_n 1, 1) := by decide +kernel
theorem dX12_gate_40 : decode cX12_gate 40 = .ok (.imul, 1) := by decide +kernel
theorem dX12_gate_41 : decode cX12_gate 41 = .ok (.iadd, 1) := by decide +kernel
theorem dX12_gate_42 : decode cX12_gate 42 = .ok (.iload_n 2, 1) := by decide +kernel
theorem dX12_gate_43 : decode cX12_gate 43 = .ok (.iadd, 1) := by decide +kernel
theorem dX12_gate_44 : decode cX12_gate 44 = .ok (.iaload, 1) := by decide +kernel
theorem dX12_gate_45 : decode cX12_gate 45 = .ok (.goto 8, 3) := by decide +kernel
theorem dX12_gate_48 : decode cX12_gate 48 = .ok (.aload_n 0, 1) := by decide +kernel
theorem dX12_gate_49 : decode cX12_gate 49 = .ok (.iconst 2, 1) := by decide +kernel
theorem dX12_gate_50 : decode cX12_gate 50 = .ok (.invokevirtual 95, 3) := by decide +kernel
theorem dX12_gate_53 : decode cX12_gate 53 = .ok (.ireturn, 1) := by decide +kernel
theorem dX12_heard_0 : decode cX12_heard 0 = .ok (.iconst 0, 1) := by decide +kernel
theorem dX12_heard_1 : decode cX12_heard 1 = .ok (.bipush 99, 2) := by decide +kernel
theorem dX12_heard_3 : decode cX12_heard 3 = .ok (.iload_n 1, 1) := by decide +kernel
theorem dX12_heard_4 : decode cX12_heard 4 = .ok (.aload_n 0, 1) := by decide +kernel
theorem dX12_heard_5 : decode cX12_heard 5 = .ok (.getfield 9, 3) := by decide +kernel
theorem dX12_heard_8 : decode cX12_heard 8 = .ok (.bipush 9, 2) := by decide +kernel
theorem dX12_heard_10 : decode cX12_heard 10 = .ok (.iaload, 1) := by decide +kernel
theorem dX12_heard_11 : decode cX12_heard 11 = .ok (.iadd, 1) := by decide +kernel
theorem dX12_heard_12 : decode cX12_heard 12 = .ok (.invokestatic 228, 3) := by decide +kernel
theorem dX12_heard_15 : decode cX12_heard 15 = .ok (.invokestatic 123, 3) := by decide +kernel
theorem dX12_heard_18 : decode cX12_heard 18 = .ok (.ireturn, 1) := by decide +kernel
theorem dX12_lowOf_0 : decode cX12_lowOf 0 = .ok (.iload_n 1, 1) := by decide +kernel
theorem dX12_lowOf_1 : decode cX12_lowOf 1 = .ok (.aload_n 0, 1) := by decide +kernel
theorem dX12_lowOf_2 : decode cX12_lowOf 2 = .ok (.getfield 30, 3) := by decide +kernel
theorem dX12_lowOf_5 : decode cX12_lowOf 5 = .ok (.if_icmp .ne 10, 3) := by decide +kernel
theorem dX12_lowOf_8 : decode cX12_lowOf 8 = .ok (.aload_n 0, 1) := by decide +kernel
theorem dX12_lowOf_9 : decode cX12_lowOf 9 = .ok (.getfield 231, 3) := by decide +kernel
theorem dX12_lowOf_12 : decode cX12_lowOf 12 = .ok (.goto 17, 3) := by decide +kernel
theorem dX12_lowOf_15 : decode cX12_lowOf 15 = .ok (.aload_n 0, 1) := by decide +kernel
theorem dX12_lowOf_16 : decode cX12_lowOf 16 = .ok (.getfield 9, 3) := by decide +kernel
theorem dX12_lowOf_19 : decode cX12_lowOf 19 = .ok (.bipush 103, 2) := by decide +kernel
theorem dX12_lowOf_21 : decode cX12_lowOf 21 = .ok (.bipush 7, 2) := by decide +kernel
theorem dX12_lowOf_23 : decode cX12_lowOf 23 = .ok (.iload_n 1, 1) := by decide +kernel
theorem dX12_lowOf_24 : decode cX12_lowOf 24 = .ok (.imul, 1) := by decide +kernel
theorem dX12_lowOf_25 : decode cX12_lowOf 25 = .ok (.iadd, 1) := by decide +kernel
theorem dX12_lowOf_26 : decode cX12_lowOf 26 = .ok (.iconst 1, 1) := by decide +kernel
theorem dX12_lowOf_27 : decode cX12_lowOf 27 = .ok (.iadd, 1) := by decide +kernel
theorem dX12_lowOf_28 : decode cX12_lowOf 28 = .ok (.iaload, 1) := by decide +kernel
theorem dX12_lowOf_29 : decode cX12_lowOf 29 = .ok (.ireturn, 1) := by decide +kernel
theorem dX12_highOf_0 : decode cX12_highOf 0 = .ok (.iload_n 1, 1) := by decide +kernel
theorem dX12_highOf_1 : decode cX12_highOf 1 = .ok (.aload_n 0, 1) := by decide +kernel
theorem dX12_highOf_2 : decode cX12_highOf 2 = .ok (.getfield 30, 3) := by decide +kernel
theorem dX12_highOf_5 : decode cX12_highOf 5 = .ok (.if_icmp .ne 10, 3) := by decide +kernel
theorem dX12_highOf_8 : decode cX12_highOf 8 = .ok (.aload_n 0, 1) := by decide +kernel
theorem dX12_highOf_9 : decode cX12_highOf 9 = .ok (.getfield 234, 3) := by decide +kernel
theorem dX12_highOf_12 : decode cX12_highOf 12 = .ok (.goto 17, 3) := by decide +kernel
theorem dX12_highOf_15 : decode cX12_highOf 15 = .ok (.aload_n 0, 1) := by decide +kernel
theorem dX12_highOf_16 : decode cX12_highOf 16 = .ok (.getfield 9, 3) := by decide +kernel
theorem dX12_highOf_19 : decode cX12_highOf 19 = .ok (.bipush 103, 2) := by decide +kernel
theorem dX12_highOf_21 : decode cX12_highOf 21 = .ok (.bipush 7, 2) := by decide +kernel
theorem dX12_highOf_23 : decode cX12_highOf 23 = .ok (.iload_n 1, 1) := by decide +kernel
theorem dX12_highOf_24 : decode cX12_highOf 24 = .ok (.imul, 1) := by decide +kernel
theorem dX12_highOf_25 : decode cX12_highOf 25 = .ok (.iadd, 1) := by decide +kernel
theorem dX12_highOf_26 : decode cX12_highOf 26 = .ok (.iconst 2, 1) := by decide +kernel
theorem dX12_highOf_27 : decode cX12_highOf 27 = .ok (.iadd, 1) := by decide +kernel
theorem dX12_highOf_28 : decode cX12_highOf 28 = .ok (.iaload, 1) := by decide +kernel
theorem dX12_highOf_29 : decode cX12_highOf 29 = .ok (.ireturn, 1) := by decide +kernel
theorem dX12_tally_0 : decode cX12_tally 0 = .ok (.iconst 0, 1) := by decide +kernel
theorem dX12_tally_1 : decode cX12_tally 1 = .ok (.istore_n 2, 1) := by decide +kernel
theorem dX12_tally_2 : decode cX12_tally 2 = .ok (.iload_n 2, 1) := by decide +kernel
theorem dX12_tally_3 : decode cX12_tally 3 = .ok (.bipush 8, 2) := by decide +kernel
theorem dX12_tally_5 : decode cX12_tally 5 = .ok (.if_icmp .gt 16, 3) := by decide +kernel
theorem dX12_tally_8 : decode cX12_tally 8 = .ok (.aload_n 0, 1) := by decide +kernel
theorem dX12_tally_9 : decode cX12_tally 9 = .ok (.getfield 36, 3) := by decide +kernel
theorem dX12_tally_12 : decode cX12_tally 12 = .ok (.iload_n 2, 1) := by decide +kernel
theorem dX12_tally_13 : decode cX12_tally 13 = .ok (.lconst 0, 1) := by decide +kernel
theorem dX12_tally_14 : decode cX12_tally 14 = .ok (.lastore, 1) := by decide +kernel
theorem dX12_tally_15 : decode cX12_tally 15 = .ok (.iinc 2 1, 3) := by decide +kernel
theorem dX12_tally_18 : decode cX12_tally 18 = .ok (.goto (-16), 3) := by decide +kernel
theorem dX12_tally_21 : decode cX12_tally 21 = .ok (.iconst 0, 1) := by decide +kernel
theorem dX12_tally_22 : decode cX12_tally 22 = .ok (.istore_n 2, 1) := by decide +kernel
theorem dX12_tally_23 : decode cX12_tally 23 = .ok (.iload_n 2, 1) := by decide +kernel
theorem dX12_tally_24 : decode cX12_tally 24 = .ok (.bipush 100, 2) := by decide +kernel
theorem dX12_tally_26 : decode cX12_tally 26 = .ok (.if_icmp .gt 16, 3) := by decide +kernel
theorem dX12_tally_29 : decode cX12_tally 29 = .ok (.aload_n 0, 1) := by decide +kernel
theorem dX12_tally_30 : decode cX12_tally 30 = .ok (.getfield 33, 3) := by decide +kernel
theorem dX12_tally_33 : decode cX12_tally 33 = .ok (.iload_n 2, 1) := by decide +kernel
theorem dX12_tally_34 : decode cX12_tally 34 = .ok (.iconst 0, 1) := by decide +kernel
theorem dX12_tally_35 : decode cX12_tally 35 = .ok (.iastore, 1) := by decide +kernel
theorem dX12_tally_36 : decode cX12_tally 36 = .ok (.iinc 2 1, 3) := by decide +kernel
theorem dX12_tally_39 : decode cX12_tally 39 = .ok (.goto (-16), 3) := by decide +kernel
theorem dX12_tally_42 : decode cX12_tally 42 = .ok (.aload_n 0, 1) := by decide +kernel
theorem dX12_tally_43 : decode cX12_tally 43 = .ok (.iload_n 1, 1) := by decide +kernel
theorem dX12_tally_44 : decode cX12_tally 44 = .ok (.iconst 2, 1) := by decide +kernel
theorem dX12_tally_45 : decode cX12_tally 45 = .ok (.iconst 0, 1) := by decide +kernel
theorem dX12_tally_46 : decode cX12_tally 46 = .ok (.invokevirtual 128, 3) := by decide +kernel
theorem dX12_tally_49 : decode cX12_tally 49 = .ok (.istore_n 2, 1) := by decide +kernel
theorem dX12_tally_50 : decode cX12_tally 50 = .ok (.iload_n 2, 1) := by decide +kernel
theorem dX12_tally_51 : decode cX12_tally 51 = .ok (.aload_n 0, 1) := by decide +kernel
theorem dX12_tally_52 : decode cX12_tally 52 = .ok (.iload_n 1, 1) := by decide +kernel
theorem dX12_tally_53 : decode cX12_tally 53 = .ok (.iconst 2, 1) := by decide +kernel
theorem dX12_tally_54 : decode cX12_tally 54 = .ok (.iconst 1, 1) := by decide +kernel
theorem dX12_tally_55 : decode cX12_tally 55 = .ok (.invokevirtual 128, 3) := by decide +kernel
theorem dX12_tally_58 : decode cX12_tally 58 = .ok (.if_icmp .gt 25, 3) := by decide +kernel
theorem dX12_tally_61 : decode cX12_tally 61 = .ok (.aload_n 0, 1) := by decide +kernel
theorem dX12_tally_62 : decode cX12_tally 62 = .ok (.getfield 33, 3) := by decide +kernel
theorem dX12_tally_65 : decode cX12_tally 65 = .ok (.aload_n 0, 1) := by decide +kernel
theorem dX12_tally_66 : decode cX12_tally 66 = .ok (.iload_n 2, 1) := by decide +kernel
theorem dX12_tally_67 : decode cX12_tally 67 = .ok (.invokevirtual 237, 3) := by decide +kernel
theorem dX12_tally_70 : decode cX12_tally 70 = .ok (.iconst 1, 1) := by decide +kernel
theorem dX12_tally_71 : decode cX12_tally 71 = .ok (.iadd, 1) := by decide +kernel
theorem dX12_tally_72 : decode cX12_tally 72 = .ok (.dup2, 1) := by decide +kernel
theorem dX12_tally_73 : decode cX12_tally 73 = .ok (.iaload, 1) := by decide +kernel
theorem dX12_tally_74 : decode cX12_tally 74 = .ok (.iconst 1, 1) := by decide +kernel
theorem dX12_tally_75 : decode cX12_tally 75 = .ok (.iadd, 1) := by decide +kernel
theorem dX12_tally_76 : decode cX12_tally 76 = .ok (.iastore, 1) := by decide +kernel
theorem dX12_tally_77 : decode cX12_tally 77 = .ok (.iinc 2 1, 3) := by decide +kernel
theorem dX12_tally_80 : decode cX12_tally 80 = .ok (.goto (-30), 3) := by decide +kernel
theorem dX12_tally_83 : decode cX12_tally 83 = .ok (.iconst 1, 1) := by decide +kernel
theorem dX12_tally_84 : decode cX12_tally 84 = .ok (.istore_n 2, 1) := by decide +kernel
theorem dX12_tally_85 : decode cX12_tally 85 = .ok (.iload_n 2, 1) := by decide +kernel
theorem dX12_tally_86 : decode cX12_tally 86 = .ok (.bipush 100, 2) := by decide +kernel
theorem dX12_tally_88 : decode cX12_tally 88 = .ok (.if_icmp .gt 26, 3) := by decide +kernel
theorem dX12_tally_91 : decode cX12_tally 91 = .ok (.aload_n 0, 1) := by decide +kernel
theorem dX12_tally_92 : decode cX12_tally 92 = .ok (.getfield 33, 3) := by decide +kernel
theorem dX12_tally_95 : decode cX12_tally 95 = .ok (.iload_n 2, 1) := by decide +kernel
theorem dX12_tally_96 : decode cX12_tally 96 = .ok (.dup2, 1) := by decide +kernel
theorem dX12_tally_97 : decode cX12_tally 97 = .ok (.iaload, 1) := by decide +kernel
theorem dX12_tally_98 : decode cX12_tally 98 = .ok (.aload_n 0, 1) := by decide +kernel
theorem dX12_tally_99 : decode cX12_tally 99 = .ok (.getfield 33, 3) := by decide +kernel
theorem dX12_tally_102 : decode cX12_tally 102 = .ok (.iload_n 2, 1) := by decide +kernel
theorem dX12_tally_103 : decode cX12_tally 103 = .ok (.iconst 1, 1) := by decide +kernel
theorem dX12_tally_104 : decode cX12_tally 104 = .ok (.isub, 1) := by decide +kernel
theorem dX12_tally_105 : decode cX12_tally 105 = .ok (.iaload, 1) := by decide +kernel
theorem dX12_tally_106 : decode cX12_tally 106 = .ok (.iadd, 1) := by decide +kernel
theorem dX12_tally_107 : decode cX12_tally 107 = .ok (.iastore, 1) := by decide +kernel
theorem dX12_tally_108 : decode cX12_tally 108 = .ok (.iinc 2 1, 3) := by decide +kernel
theorem dX12_tally_111 : decode cX12_tally 111 = .ok (.goto (-26), 3) := by decide +kernel
theorem dX12_tally_114 : decode cX12_tally 114 = .ok (.aload_n 0, 1) := by decide +kernel
theorem dX12_tally_115 : decode cX12_tally 115 = .ok (.iconst 0, 1) := by decide +kernel
theorem dX12_tally_116 : decode cX12_tally 116 = .ok (.aload_n 0, 1) := by decide +kernel
theorem dX12_tally_117 : decode cX12_tally 117 = .ok (.iload_n 1, 1) := by decide +kernel
theorem dX12_tally_118 : decode cX12_tally 118 = .ok (.iconst 0, 1) := by decide +kernel
theorem dX12_tally_119 : decode cX12_tally 119 = .ok (.iconst 0, 1) := by decide +kernel
theorem dX12_tally_120 : decode cX12_tally 120 = .ok (.invokevirtual 128, 3) := by decide +kernel
theorem dX12_tally_123 : decode cX12_tally 123 = .ok (.aload_n 0, 1) := by decide +kernel
theorem dX12_tally_124 : decode cX12_tally 124 = .ok (.iload_n 1, 1) := by decide +kernel
theorem dX12_tally_125 : decode cX12_tally 125 = .ok (.iconst 0, 1) := by decide +kernel
theorem dX12_tally_126 : decode cX12_tally 126 = .ok (.iconst 1, 1) := by decide +kernel
theorem dX12_tally_127 : decode cX12_tally 127 = .ok (.invokevirtual 128, 3) := by decide +kernel
theorem dX12_tally_130 : decode cX12_tally 130 = .ok (.aload_n 0, 1) := by decide +kernel
theorem dX12_tally_131 : decode cX12_tally 131 = .ok (.iload_n 1, 1) := by decide +kernel
theorem dX12_tally_132 : decode cX12_tally 132 = .ok (.iconst 1, 1) := by decide +kernel
theorem dX12_tally_133 : decode cX12_tally 133 = .ok (.iconst 0, 1) := by decide +kernel
theorem dX12_tally_134 : decode cX12_tally 134 = .ok (.invokevirtual 128, 3) := by decide +kernel
theorem dX12_tally_137 : decode cX12_tally 137 = .ok (.aload_n 0, 1) := by decide +kernel
theorem dX12_tally_138 : decode cX12_tally 138 = .ok (.iload_n 1, 1) := by decide +kernel
theorem dX12_tally_139 : decode cX12_tally 139 = .ok (.iconst 1, 1) := by decide +kernel
theorem dX12_tally_140 : decode cX12_tally 140 = .ok (.iconst 1, 1) := by decide +kernel
theorem dX12_tally_141 : decode cX12_tally 141 = .ok (.invokevirtual 128, 3) := by decide +kernel
theorem dX12_tally_144 : decode cX12_tally 144 = .ok (.iconst 0, 1) := by decide +kernel
theorem dX12_tally_145 : decode cX12_tally 145 = .ok (.bipush 99, 2) := by decide +kernel
theorem dX12_tally_147 : decode cX12_tally 147 = .ok (.invokevirtual 240, 3) := by decide +kernel
theorem dX12_tally_150 : decode cX12_tally 150 = .ok (.return_, 1) := by decide +kernel
theorem dX12_box_0 : decode cX12_box 0 = .ok (.iload_n 2, 1) := by decide +kernel
theorem dX12_box_1 : decode cX12_box 1 = .ok (.iload_n 3, 1) := by decide +kernel
theorem dX12_box_2 : decode cX12_box 2 = .ok (.if_icmp .gt 36, 3) := by decide +kernel
theorem dX12_box_5 : decode cX12_box 5 = .ok (.iload 4, 2) := by decide +kernel
theorem dX12_box_7 : decode cX12_box 7 = .ok (.iload 5, 2) := by decide +kernel
theorem dX12_box_9 : decode cX12_box 9 = .ok (.if_icmp .gt 29, 3) := by decide +kernel
theorem dX12_box_12 : decode cX12_box 12 = .ok (.iload 6, 2) := by decide +kernel
theorem dX12_box_14 : decode cX12_box 14 = .ok (.iload 7, 2) := by decide +kernel
theorem dX12_box_16 : decode cX12_box 16 = .ok (.if_icmp .gt 22, 3) := by decide +kernel
theorem dX12_box_19 : decode cX12_box 19 = .ok (.aload_n 0, 1) := by decide +kernel
theorem dX12_box_20 : decode cX12_box 20 = .ok (.getfield 33, 3) := by decide +kernel
theorem dX12_box_23 : decode cX12_box 23 = .ok (.iload 7, 2) := by decide +kernel
theorem dX12_box_25 : decode cX12_box 25 = .ok (.iconst 1, 1) := by decide +kernel
theorem dX12_box_26 : decode cX12_box 26 = .ok (.iadd, 1) := by decide +kernel
theorem dX12_box_27 : decode cX12_box 27 = .ok (.iaload, 1) := by decide +kernel
theorem dX12_box_28 : decode cX12_box 28 = .ok (.aload_n 0, 1) := by decide +kernel
theorem dX12_box_29 : decode cX12_box 29 = .ok (.getfield 33, 3) := by decide +kernel
theorem dX12_box_32 : decode cX12_box 32 = .ok (.iload 6, 2) := by decide +kernel
theorem dX12_box_34 : decode cX12_box 34 = .ok (.iaload, 1) := by decide +kernel
theorem dX12_box_35 : decode cX12_box 35 = .ok (.if_icmp .ne 4, 3) := by decide +kernel
theorem dX12_box_38 : decode cX12_box 38 = .ok (.return_, 1) := by decide +kernel
theorem dX12_box_39 : decode cX12_box 39 = .ok (.iload_n 1, 1) := by decide +kernel
theorem dX12_box_40 : decode cX12_box 40 = .ok (.aload_n 0, 1) := by decide +kernel
theorem dX12_box_41 : decode cX12_box 41 = .ok (.getfield 9, 3) := by decide +kernel
theorem dX12_box_44 : decode cX12_box 44 = .ok (.iconst 1, 1) := by decide +kernel
theorem dX12_box_45 : decode cX12_box 45 = .ok (.iaload, 1) := by decide +kernel
theorem dX12_box_46 : decode cX12_box 46 = .ok (.if_icmp .lt 28, 3) := by decide +kernel
theorem dX12_box_49 : decode cX12_box 49 = .ok (.aload_n 0, 1) := by decide +kernel
theorem dX12_box_50 : decode cX12_box 50 = .ok (.getfield 36, 3) := by decide +kernel
theorem dX12_box_53 : decode cX12_box 53 = .ok (.bipush 8, 2) := by decide +kernel
theorem dX12_box_55 : decode cX12_box 55 = .ok (.dup2, 1) := by decide +kernel
theorem dX12_box_56 : decode cX12_box 56 = .ok (.laload, 1) := by decide +kernel
theorem dX12_box_57 : decode cX12_box 57 = .ok (.aload_n 0, 1) := by decide +kernel
theorem dX12_box_58 : decode cX12_box 58 = .ok (.iload_n 2, 1) := by decide +kernel
theorem dX12_box_59 : decode cX12_box 59 = .ok (.iload_n 3, 1) := by decide +kernel
theorem dX12_box_60 : decode cX12_box 60 = .ok (.iload 4, 2) := by decide +kernel
theorem dX12_box_62 : decode cX12_box 62 = .ok (.iload 5, 2) := by decide +kernel
theorem dX12_box_64 : decode cX12_box 64 = .ok (.iload 6, 2) := by decide +kernel
theorem dX12_box_66 : decode cX12_box 66 = .ok (.iload 7, 2) := by decide +kernel
theorem dX12_box_68 : decode cX12_box 68 = .ok (.invokevirtual 244, 3) := by decide +kernel
theorem dX12_box_71 : decode cX12_box 71 = .ok (.ladd, 1) := by decide +kernel
theorem dX12_box_72 : decode cX12_box 72 = .ok (.lastore, 1) := by decide +kernel
theorem dX12_box_73 : decode cX12_box 73 = .ok (.return_, 1) := by decide +kernel
theorem dX12_box_74 : decode cX12_box 74 = .ok (.aload_n 0, 1) := by decide +kernel
theorem dX12_box_75 : decode cX12_box 75 = .ok (.getfield 9, 3) := by decide +kernel
theorem dX12_box_78 : decode cX12_box 78 = .ok (.bipush 103, 2) := by decide +kernel
theorem dX12_box_80 : decode cX12_box 80 = .ok (.bipush 7, 2) := by decide +kernel
theorem dX12_box_82 : decode cX12_box 82 = .ok (.iload_n 1, 1) := by decide +kernel
theorem dX12_box_83 : decode cX12_box 83 = .ok (.imul, 1) := by decide +kernel
theorem dX12_box_84 : decode cX12_box 84 = .ok (.iadd, 1) := by decide +kernel
theorem dX12_box_85 : decode cX12_box 85 = .ok (.iaload, 1) := by decide +kernel
theorem dX12_box_86 : decode cX12_box 86 = .ok (.istore 8, 2) := by decide +kernel
theorem dX12_box_88 : decode cX12_box 88 = .ok (.aload_n 0, 1) := by decide +kernel
theorem dX12_box_89 : decode cX12_box 89 = .ok (.iload_n 1, 1) := by decide +kernel
theorem dX12_box_90 : decode cX12_box 90 = .ok (.invokevirtual 248, 3) := by decide +kernel
theorem dX12_box_93 : decode cX12_box 93 = .ok (.istore 9, 2) := by decide +kernel
theorem dX12_box_95 : decode cX12_box 95 = .ok (.aload_n 0, 1) := by decide +kernel
theorem dX12_box_96 : decode cX12_box 96 = .ok (.iload_n 1, 1) := by decide +kernel
theorem dX12_box_97 : decode cX12_box 97 = .ok (.invokevirtual 251, 3) := by decide +kernel
theorem dX12_box_100 : decode cX12_box 100 = .ok (.istore 10, 2) := by decide +kernel
theorem dX12_box_102 : decode cX12_box 102 = .ok (.iload 9, 2) := by decide +kernel
theorem dX12_box_104 : decode cX12_box 104 = .ok (.iload 10, 2) := by decide +kernel
theorem dX12_box_106 : decode cX12_box 106 = .ok (.if_icmp .le 22, 3) := by decide +kernel
theorem dX12_box_109 : decode cX12_box 109 = .ok (.aload_n 0, 1) := by decide +kernel
theorem dX12_box_110 : decode cX12_box 110 = .ok (.iload_n 1, 1) := by decide +kernel
theorem dX12_box_111 : decode cX12_box 111 = .ok (.iconst 5, 1) := by decide +kernel
theorem dX12_box_112 : decode cX12_box 112 = .ok (.iload_n 2, 1) := by decide +kernel
theorem dX12_box_113 : decode cX12_box 113 = .ok (.iload_n 3, 1) := by decide +kernel
theorem dX12_box_114 : decode cX12_box 114 = .ok (.iload 4, 2) := by decide +kernel
theorem dX12_box_116 : decode cX12_box 116 = .ok (.iload 5, 2) := by decide +kernel
theorem dX12_box_118 : decode cX12_box 118 = .ok (.iload 6, 2) := by decide +kernel
theorem dX12_box_120 : decode cX12_box 120 = .ok (.iload 7, 2) := by decide +kernel
theorem dX12_box_122 : decode cX12_box 122 = .ok (.invokevirtual 254, 3) := by decide +kernel
theorem dX12_box_125 : decode cX12_box 125 = .ok (.goto 236, 3) := by decide +kernel
theorem dX12_box_128 : decode cX12_box 128 = .ok (.iload 8, 2) := by decide +kernel
theorem dX12_box_130 : decode cX12_box 130 = .ok (.ifCond .ne 78, 3) := by decide +kernel
theorem dX12_box_133 : decode cX12_box 133 = .ok (.aload_n 0, 1) := by decide +kernel
theorem dX12_box_134 : decode cX12_box 134 = .ok (.iload_n 1, 1) := by decide +kernel
theorem dX12_box_135 : decode cX12_box 135 = .ok (.iconst 3, 1) := by decide +kernel
theorem dX12_box_136 : decode cX12_box 136 = .ok (.iload_n 2, 1) := by decide +kernel
theorem dX12_box_137 : decode cX12_box 137 = .ok (.iload 9, 2) := by decide +kernel
theorem dX12_box_139 : decode cX12_box 139 = .ok (.invokestatic 123, 3) := by decide +kernel
theorem dX12_box_142 : decode cX12_box 142 = .ok (.iload_n 3, 1) := by decide +kernel
theorem dX12_box_143 : decode cX12_box 143 = .ok (.iload 10, 2) := by decide +kernel
theorem dX12_box_145 : decode cX12_box 145 = .ok (.invokestatic 228, 3) := by decide +kernel
theorem dX12_box_148 : decode cX12_box 148 = .ok (.iload 4, 2) := by decide +kernel
theorem dX12_box_150 : decode cX12_box 150 = .ok (.iload 5, 2) := by decide +kernel
theorem dX12_box_152 : decode cX12_box 152 = .ok (.iload 6, 2) := by decide +kernel
theorem dX12_box_154 : decode cX12_box 154 = .ok (.iload 7, 2) := by decide +kernel
theorem dX12_box_156 : decode cX12_box 156 = .ok (.invokevirtual 254, 3) := by decide +kernel
theorem dX12_box_159 : decode cX12_box 159 = .ok (.aload_n 0, 1) := by decide +kernel
theorem dX12_box_160 : decode cX12_box 160 = .ok (.iload_n 1, 1) := by decide +kernel
theorem dX12_box_161 : decode cX12_box 161 = .ok (.iconst 5, 1) := by decide +kernel
theorem dX12_box_162 : decode cX12_box 162 = .ok (.iload_n 2, 1) := by decide +kernel
