theorem dX12_credit_0 : decode cX12_credit 0 = .ok (.aload_n 0, 1) := by decide +kernel
theorem dX12_credit_1 : decode cX12_credit 1 = .ok (.iconst 0, 1) := by decide +kernel
theorem dX12_credit_2 : decode cX12_credit 2 = .ok (.putfield 80, 3) := by decide +kernel
theorem dX12_credit_5 : decode cX12_credit 5 = .ok (.aload_n 0, 1) := by decide +kernel
theorem dX12_credit_6 : decode cX12_credit 6 = .ok (.invokevirtual 315, 3) := by decide +kernel
theorem dX12_credit_9 : decode cX12_credit 9 = .ok (.ireturn, 1) := by decide +kernel
theorem dX12_gives_0 : decode cX12_gives 0 = .ok (.aload_n 0, 1) := by decide +kernel
theorem dX12_gives_1 : decode cX12_gives 1 = .ok (.getfield 9, 3) := by decide +kernel
theorem dX12_gives_4 : decode cX12_gives 4 = .ok (.sipush 405, 3) := by decide +kernel
theorem dX12_gives_7 : decode cX12_gives 7 = .ok (.aload_n 0, 1) := by decide +kernel
theorem dX12_gives_8 : decode cX12_gives 8 = .ok (.getfield 9, 3) := by decide +kernel
theorem dX12_gives_11 : decode cX12_gives 11 = .ok (.bipush 6, 2) := by decide +kernel
theorem dX12_gives_13 : decode cX12_gives 13 = .ok (.iaload, 1) := by decide +kernel
theorem dX12_gives_14 : decode cX12_gives 14 = .ok (.iadd, 1) := by decide +kernel
theorem dX12_gives_15 : decode cX12_gives 15 = .ok (.iload_n 1, 1) := by decide +kernel
theorem dX12_gives_16 : decode cX12_gives 16 = .ok (.iastore, 1) := by decide +kernel
theorem dX12_gives_17 : decode cX12_gives 17 = .ok (.aload_n 0, 1) := by decide +kernel
theorem dX12_gives_18 : decode cX12_gives 18 = .ok (.getfield 9, 3) := by decide +kernel
theorem dX12_gives_21 : decode cX12_gives 21 = .ok (.bipush 6, 2) := by decide +kernel
theorem dX12_gives_23 : decode cX12_gives 23 = .ok (.dup2, 1) := by decide +kernel
theorem dX12_gives_24 : decode cX12_gives 24 = .ok (.iaload, 1) := by decide +kernel
theorem dX12_gives_25 : decode cX12_gives 25 = .ok (.iconst 1, 1) := by decide +kernel
theorem dX12_gives_26 : decode cX12_gives 26 = .ok (.iadd, 1) := by decide +kernel
theorem dX12_gives_27 : decode cX12_gives 27 = .ok (.iastore, 1) := by decide +kernel
theorem dX12_gives_28 : decode cX12_gives 28 = .ok (.return_, 1) := by decide +kernel
theorem dX12_sale_0 : decode cX12_sale 0 = .ok (.aload_n 0, 1) := by decide +kernel
theorem dX12_sale_1 : decode cX12_sale 1 = .ok (.iconst 0, 1) := by decide +kernel
theorem dX12_sale_2 : decode cX12_sale 2 = .ok (.putfield 80, 3) := by decide +kernel
theorem dX12_sale_5 : decode cX12_sale 5 = .ok (.aload_n 0, 1) := by decide +kernel
theorem dX12_sale_6 : decode cX12_sale 6 = .ok (.iload_n 1, 1) := by decide +kernel
theorem dX12_sale_7 : decode cX12_sale 7 = .ok (.invokevirtual 290, 3) := by decide +kernel
theorem dX12_sale_10 : decode cX12_sale 10 = .ok (.ifCond .ne 9, 3) := by decide +kernel
theorem dX12_sale_13 : decode cX12_sale 13 = .ok (.aload_n 0, 1) := by decide +kernel
theorem dX12_sale_14 : decode cX12_sale 14 = .ok (.iconst 1, 1) := by decide +kernel
theorem dX12_sale_15 : decode cX12_sale 15 = .ok (.invokevirtual 95, 3) := by decide +kernel
theorem dX12_sale_18 : decode cX12_sale 18 = .ok (.ireturn, 1) := by decide +kernel
theorem dX12_sale_19 : decode cX12_sale 19 = .ok (.aload_n 0, 1) := by decide +kernel
theorem dX12_sale_20 : decode cX12_sale 20 = .ok (.invokevirtual 315, 3) := by decide +kernel
theorem dX12_sale_23 : decode cX12_sale 23 = .ok (.aload_n 0, 1) := by decide +kernel
theorem dX12_sale_24 : decode cX12_sale 24 = .ok (.getfield 9, 3) := by decide +kernel
theorem dX12_sale_27 : decode cX12_sale 27 = .ok (.sipush 351, 3) := by decide +kernel
theorem dX12_sale_30 : decode cX12_sale 30 = .ok (.iload_n 1, 1) := by decide +kernel
theorem dX12_sale_31 : decode cX12_sale 31 = .ok (.iadd, 1) := by decide +kernel
theorem dX12_sale_32 : decode cX12_sale 32 = .ok (.iaload, 1) := by decide +kernel
theorem dX12_sale_33 : decode cX12_sale 33 = .ok (.isub, 1) := by decide +kernel
theorem dX12_sale_34 : decode cX12_sale 34 = .ok (.istore_n 2, 1) := by decide +kernel
theorem dX12_sale_35 : decode cX12_sale 35 = .ok (.aload_n 0, 1) := by decide +kernel
theorem dX12_sale_36 : decode cX12_sale 36 = .ok (.invokevirtual 318, 3) := by decide +kernel
theorem dX12_sale_39 : decode cX12_sale 39 = .ok (.iload_n 2, 1) := by decide +kernel
theorem dX12_sale_40 : decode cX12_sale 40 = .ok (.ifCond .lt 12, 3) := by decide +kernel
theorem dX12_sale_43 : decode cX12_sale 43 = .ok (.aload_n 0, 1) := by decide +kernel
theorem dX12_sale_44 : decode cX12_sale 44 = .ok (.iload_n 2, 1) := by decide +kernel
theorem dX12_sale_45 : decode cX12_sale 45 = .ok (.invokevirtual 321, 3) := by decide +kernel
theorem dX12_sale_48 : decode cX12_sale 48 = .ok (.iconst (-1), 1) := by decide +kernel
theorem dX12_sale_49 : decode cX12_sale 49 = .ok (.if_icmp .ne 5, 3) := by decide +kernel
theorem dX12_sale_52 : decode cX12_sale 52 = .ok (.iconst (-1), 1) := by decide +kernel
theorem dX12_sale_53 : decode cX12_sale 53 = .ok (.ireturn, 1) := by decide +kernel
theorem dX12_sale_54 : decode cX12_sale 54 = .ok (.aload_n 0, 1) := by decide +kernel
theorem dX12_sale_55 : decode cX12_sale 55 = .ok (.getfield 9, 3) := by decide +kernel
theorem dX12_sale_58 : decode cX12_sale 58 = .ok (.bipush 6, 2) := by decide +kernel
theorem dX12_sale_60 : decode cX12_sale 60 = .ok (.iconst 0, 1) := by decide +kernel
theorem dX12_sale_61 : decode cX12_sale 61 = .ok (.iastore, 1) := by decide +kernel
theorem dX12_sale_62 : decode cX12_sale 62 = .ok (.iconst 0, 1) := by decide +kernel
theorem dX12_sale_63 : decode cX12_sale 63 = .ok (.istore_n 3, 1) := by decide +kernel
theorem dX12_sale_64 : decode cX12_sale 64 = .ok (.iload_n 3, 1) := by decide +kernel
theorem dX12_sale_65 : decode cX12_sale 65 = .ok (.bipush 8, 2) := by decide +kernel
theorem dX12_sale_67 : decode cX12_sale 67 = .ok (.if_icmp .ge 80, 3) := by decide +kernel
theorem dX12_sale_70 : decode cX12_sale 70 = .ok (.iconst 0, 1) := by decide +kernel
theorem dX12_sale_71 : decode cX12_sale 71 = .ok (.istore 4, 2) := by decide +kernel
theorem dX12_sale_73 : decode cX12_sale 73 = .ok (.iload 4, 2) := by decide +kernel
theorem dX12_sale_75 : decode cX12_sale 75 = .ok (.aload_n 0, 1) := by decide +kernel
theorem dX12_sale_76 : decode cX12_sale 76 = .ok (.getfield 47, 3) := by decide +kernel
theorem dX12_sale_79 : decode cX12_sale 79 = .ok (.iload_n 3, 1) := by decide +kernel
theorem dX12_sale_80 : decode cX12_sale 80 = .ok (.iaload, 1) := by decide +kernel
theorem dX12_sale_81 : decode cX12_sale 81 = .ok (.if_icmp .ge 60, 3) := by decide +kernel
theorem dX12_sale_84 : decode cX12_sale 84 = .ok (.aload_n 0, 1) := by decide +kernel
theorem dX12_sale_85 : decode cX12_sale 85 = .ok (.iload_n 3, 1) := by decide +kernel
theorem dX12_sale_86 : decode cX12_sale 86 = .ok (.invokevirtual 293, 3) := by decide +kernel
theorem dX12_sale_89 : decode cX12_sale 89 = .ok (.istore 5, 2) := by decide +kernel
theorem dX12_sale_91 : decode cX12_sale 91 = .ok (.aload_n 0, 1) := by decide +kernel
theorem dX12_sale_92 : decode cX12_sale 92 = .ok (.aload_n 0, 1) := by decide +kernel
theorem dX12_sale_93 : decode cX12_sale 93 = .ok (.getfield 9, 3) := by decide +kernel
theorem dX12_sale_96 : decode cX12_sale 96 = .ok (.iload 5, 2) := by decide +kernel
theorem dX12_sale_98 : decode cX12_sale 98 = .ok (.aload_n 0, 1) := by decide +kernel
theorem dX12_sale_99 : decode cX12_sale 99 = .ok (.getfield 9, 3) := by decide +kernel
theorem dX12_sale_102 : decode cX12_sale 102 = .ok (.iload 5, 2) := by decide +kernel
theorem dX12_sale_104 : decode cX12_sale 104 = .ok (.iaload, 1) := by decide +kernel
theorem dX12_sale_105 : decode cX12_sale 105 = .ok (.iadd, 1) := by decide +kernel
theorem dX12_sale_106 : decode cX12_sale 106 = .ok (.iaload, 1) := by decide +kernel
theorem dX12_sale_107 : decode cX12_sale 107 = .ok (.invokevirtual 324, 3) := by decide +kernel
theorem dX12_sale_110 : decode cX12_sale 110 = .ok (.aload_n 0, 1) := by decide +kernel
theorem dX12_sale_111 : decode cX12_sale 111 = .ok (.getfield 9, 3) := by decide +kernel
theorem dX12_sale_114 : decode cX12_sale 114 = .ok (.iload 5, 2) := by decide +kernel
theorem dX12_sale_116 : decode cX12_sale 116 = .ok (.dup2, 1) := by decide +kernel
theorem dX12_sale_117 : decode cX12_sale 117 = .ok (.iaload, 1) := by decide +kernel
theorem dX12_sale_118 : decode cX12_sale 118 = .ok (.iconst 1, 1) := by decide +kernel
theorem dX12_sale_119 : decode cX12_sale 119 = .ok (.isub, 1) := by decide +kernel
theorem dX12_sale_120 : decode cX12_sale 120 = .ok (.iastore, 1) := by decide +kernel
theorem dX12_sale_121 : decode cX12_sale 121 = .ok (.aload_n 0, 1) := by decide +kernel
theorem dX12_sale_122 : decode cX12_sale 122 = .ok (.getfield 9, 3) := by decide +kernel
theorem dX12_sale_125 : decode cX12_sale 125 = .ok (.sipush 343, 3) := by decide +kernel
theorem dX12_sale_128 : decode cX12_sale 128 = .ok (.iload_n 3, 1) := by decide +kernel
theorem dX12_sale_129 : decode cX12_sale 129 = .ok (.iadd, 1) := by decide +kernel
theorem dX12_sale_130 : decode cX12_sale 130 = .ok (.dup2, 1) := by decide +kernel
theorem dX12_sale_131 : decode cX12_sale 131 = .ok (.iaload, 1) := by decide +kernel
theorem dX12_sale_132 : decode cX12_sale 132 = .ok (.iconst 1, 1) := by decide +kernel
theorem dX12_sale_133 : decode cX12_sale 133 = .ok (.isub, 1) := by decide +kernel
theorem dX12_sale_134 : decode cX12_sale 134 = .ok (.iastore, 1) := by decide +kernel
theorem dX12_sale_135 : decode cX12_sale 135 = .ok (.iinc 4 1, 3) := by decide +kernel
theorem dX12_sale_138 : decode cX12_sale 138 = .ok (.goto (-65), 3) := by decide +kernel
theorem dX12_sale_141 : decode cX12_sale 141 = .ok (.iinc 3 1, 3) := by decide +kernel
theorem dX12_sale_144 : decode cX12_sale 144 = .ok (.goto (-80), 3) := by decide +kernel
theorem dX12_sale_147 : decode cX12_sale 147 = .ok (.iconst 0, 1) := by decide +kernel
theorem dX12_sale_148 : decode cX12_sale 148 = .ok (.istore_n 3, 1) := by decide +kernel
theorem dX12_sale_149 : decode cX12_sale 149 = .ok (.iload_n 3, 1) := by decide +kernel
theorem dX12_sale_150 : decode cX12_sale 150 = .ok (.aload_n 0, 1) := by decide +kernel
theorem dX12_sale_151 : decode cX12_sale 151 = .ok (.getfield 9, 3) := by decide +kernel
theorem dX12_sale_154 : decode cX12_sale 154 = .ok (.iconst 3, 1) := by decide +kernel
theorem dX12_sale_155 : decode cX12_sale 155 = .ok (.iaload, 1) := by decide +kernel
theorem dX12_sale_156 : decode cX12_sale 156 = .ok (.if_icmp .ge 35, 3) := by decide +kernel
theorem dX12_sale_159 : decode cX12_sale 159 = .ok (.aload_n 0, 1) := by decide +kernel
theorem dX12_sale_160 : decode cX12_sale 160 = .ok (.iload_n 3, 1) := by decide +kernel
theorem dX12_sale_161 : decode cX12_sale 161 = .ok (.iconst 1, 1) := by decide +kernel
theorem dX12_sale_162 : decode cX12_sale 162 = .ok (.invokevirtual 312, 3) := by decide +kernel
theorem dX12_sale_165 : decode cX12_sale 165 = .ok (.iconst (-1), 1) := by decide +kernel
theorem dX12_sale_166 : decode cX12_sale 166 = .ok (.if_icmp .eq 19, 3) := by decide +kernel
theorem dX12_sale_169 : decode cX12_sale 169 = .ok (.aload_n 0, 1) := by decide +kernel
theorem dX12_sale_170 : decode cX12_sale 170 = .ok (.aload_n 0, 1) := by decide +kernel
theorem dX12_sale_171 : decode cX12_sale 171 = .ok (.iload_n 3, 1) := by decide +kernel
theorem dX12_sale_172 : decode cX12_sale 172 = .ok (.iconst 0, 1) := by decide +kernel
theorem dX12_sale_173 : decode cX12_sale 173 = .ok (.invokevirtual 312, 3) := by decide +kernel
theorem dX12_sale_176 : decode cX12_sale 176 = .ok (.aload_n 0, 1) := by decide +kernel
theorem dX12_sale_177 : decode cX12_sale 177 = .ok (.iload_n 3, 1) := by decide +kernel
theorem dX12_sale_178 : decode cX12_sale 178 = .ok (.iconst 1, 1) := by decide +kernel
theorem dX12_sale_179 : decode cX12_sale 179 = .ok (.invokevirtual 312, 3) := by decide +kernel
theorem dX12_sale_182 : decode cX12_sale 182 = .ok (.invokevirtual 298, 3) := by decide +kernel
theorem dX12_sale_185 : decode cX12_sale 185 = .ok (.iinc 3 1, 3) := by decide +kernel
theorem dX12_sale_188 : decode cX12_sale 188 = .ok (.goto (-39), 3) := by decide +kernel
theorem dX12_sale_191 : decode cX12_sale 191 = .ok (.aload_n 0, 1) := by decide +kernel
theorem dX12_sale_192 : decode cX12_sale 192 = .ok (.getfield 9, 3) := by decide +kernel
theorem dX12_sale_195 : decode cX12_sale 195 = .ok (.iconst 3, 1) := by decide +kernel
theorem dX12_sale_196 : decode cX12_sale 196 = .ok (.iconst 0, 1) := by decide +kernel
theorem dX12_sale_197 : decode cX12_sale 197 = .ok (.iastore, 1) := by decide +kernel
theorem dX12_sale_198 : decode cX12_sale 198 = .ok (.aload_n 0, 1) := by decide +kernel
theorem dX12_sale_199 : decode cX12_sale 199 = .ok (.getfield 9, 3) := by decide +kernel
theorem dX12_sale_202 : decode cX12_sale 202 = .ok (.bipush 6, 2) := by decide +kernel
theorem dX12_sale_204 : decode cX12_sale 204 = .ok (.iaload, 1) := by decide +kernel
theorem dX12_sale_205 : decode cX12_sale 205 = .ok (.ireturn, 1) := by decide +kernel
theorem dX12_refund_0 : decode cX12_refund 0 = .ok (.aload_n 0, 1) := by decide +kernel
theorem dX12_refund_1 : decode cX12_refund 1 = .ok (.iconst 0, 1) := by decide +kernel
theorem dX12_refund_2 : decode cX12_refund 2 = .ok (.putfield 80, 3) := by decide +kernel
theorem dX12_refund_5 : decode cX12_refund 5 = .ok (.aload_n 0, 1) := by decide +kernel
theorem dX12_refund_6 : decode cX12_refund 6 = .ok (.getfield 9, 3) := by decide +kernel
theorem dX12_refund_9 : decode cX12_refund 9 = .ok (.bipush 6, 2) := by decide +kernel
theorem dX12_refund_11 : decode cX12_refund 11 = .ok (.iconst 0, 1) := by decide +kernel
theorem dX12_refund_12 : decode cX12_refund 12 = .ok (.iastore, 1) := by decide +kernel
theorem dX12_refund_13 : decode cX12_refund 13 = .ok (.iconst 0, 1) := by decide +kernel
theorem dX12_refund_14 : decode cX12_refund 14 = .ok (.istore_n 1, 1) := by decide +kernel
theorem dX12_refund_15 : decode cX12_refund 15 = .ok (.iload_n 1, 1) := by decide +kernel
theorem dX12_refund_16 : decode cX12_refund 16 = .ok (.aload_n 0, 1) := by decide +kernel
theorem dX12_refund_17 : decode cX12_refund 17 = .ok (.getfield 9, 3) := by decide +kernel
theorem dX12_refund_20 : decode cX12_refund 20 = .ok (.iconst 3, 1) := by decide +kernel
theorem dX12_refund_21 : decode cX12_refund 21 = .ok (.iaload, 1) := by decide +kernel
theorem dX12_refund_22 : decode cX12_refund 22 = .ok (.if_icmp .ge 53, 3) := by decide +kernel
theorem dX12_refund_25 : decode cX12_refund 25 = .ok (.aload_n 0, 1) := by decide +kernel
theorem dX12_refund_26 : decode cX12_refund 26 = .ok (.iload_n 1, 1) := by decide +kernel
theorem dX12_refund_27 : decode cX12_refund 27 = .ok (.iconst 1, 1) := by decide +kernel
theorem dX12_refund_28 : decode cX12_refund 28 = .ok (.invokevirtual 312, 3) := by decide +kernel
theorem dX12_refund_31 : decode cX12_refund 31 = .ok (.iconst (-1), 1) := by decide +kernel
theorem dX12_refund_32 : decode cX12_refund 32 = .ok (.if_icmp .eq 13, 3) := by decide +kernel
theorem dX12_refund_35 : decode cX12_refund 35 = .ok (.aload_n 0, 1) := by decide +kernel
theorem dX12_refund_36 : decode cX12_refund 36 = .ok (.aload_n 0, 1) := by decide +kernel
theorem dX12_refund_37 : decode cX12_refund 37 = .ok (.iload_n 1, 1) := by decide +kernel
theorem dX12_refund_38 : decode cX12_refund 38 = .ok (.iconst 1, 1) := by decide +kernel
theorem dX12_refund_39 : decode cX12_refund 39 = .ok (.invokevirtual 312, 3) := by decide +kernel
theorem dX12_refund_42 : decode cX12_refund 42 = .ok (.invokevirtual 324, 3) := by decide +kernel
theorem dX12_refund_45 : decode cX12_refund 45 = .ok (.aload_n 0, 1) := by decide +kernel
theorem dX12_refund_46 : decode cX12_refund 46 = .ok (.getfield 9, 3) := by decide +kernel
theorem dX12_refund_49 : decode cX12_refund 49 = .ok (.sipush 343, 3) := by decide +kernel
theorem dX12_refund_52 : decode cX12_refund 52 = .ok (.aload_n 0, 1) := by decide +kernel
theorem dX12_refund_53 : decode cX12_refund 53 = .ok (.iload_n 1, 1) := by decide +kernel
theorem dX12_refund_54 : decode cX12_refund 54 = .ok (.iconst 0, 1) := by decide +kernel
theorem dX12_refund_55 : decode cX12_refund 55 = .ok (.invokevirtual 312, 3) := by decide +kernel
theorem dX12_refund_58 : decode cX12_refund 58 = .ok (.iadd, 1) := by decide +kernel
theorem dX12_refund_59 : decode cX12_refund 59 = .ok (.dup2, 1) := by decide +kernel
theorem dX12_refund_60 : decode cX12_refund 60 = .ok (.iaload, 1) := by decide +kernel
theorem dX12_refund_61 : decode cX12_refund 61 = .ok (.aload_n 0, 1) := by decide +kernel
theorem dX12_refund_62 : decode cX12_refund 62 = .ok (.iload_n 1, 1) := by decide +kernel
theorem dX12_refund_63 : decode cX12_refund 63 = .ok (.iconst 3, 1) := by decide +kernel
theorem dX12_refund_64 : decode cX12_refund 64 = .ok (.invokevirtual 312, 3) := by decide +kernel
theorem dX12_refund_67 : decode cX12_refund 67 = .ok (.isub, 1) := by decide +kernel
theorem dX12_refund_68 : decode cX12_refund 68 = .ok (.iastore, 1) := by decide +kernel
theorem dX12_refund_69 : decode cX12_refund 69 = .ok (.iinc 1 1, 3) := by decide +kernel
theorem dX12_refund_72 : decode cX12_refund 72 = .ok (.goto (-57), 3) := by decide +kernel
theorem dX12_refund_75 : decode cX12_refund 75 = .ok (.aload_n 0, 1) := by decide +kernel
theorem dX12_refund_76 : decode cX12_refund 76 = .ok (.getfield 9, 3) := by decide +kernel
theorem dX12_refund_79 : decode cX12_refund 79 = .ok (.iconst 3, 1) := by decide +kernel
theorem dX12_refund_80 : decode cX12_refund 80 = .ok (.iconst 0, 1) := by decide +kernel
theorem dX12_refund_81 : decode cX12_refund 81 = .ok (.iastore, 1) := by decide +kernel
theorem dX12_refund_82 : decode cX12_refund 82 = .ok (.aload_n 0, 1) := by decide +kernel
theorem dX12_refund_83 : decode cX12_refund 83 = .ok (.getfield 9, 3) := by decide +kernel
theorem dX12_refund_86 : decode cX12_refund 86 = .ok (.bipush 6, 2) := by decide +kernel
theorem dX12_refund_88 : decode cX12_refund 88 = .ok (.iaload, 1) := by decide +kernel
theorem dX12_refund_89 : decode cX12_refund 89 = .ok (.ireturn, 1) := by decide +kernel
theorem dX12_given_0 : decode cX12_given 0 = .ok (.aload_n 0, 1) := by decide +kernel
theorem dX12_given_1 : decode cX12_given 1 = .ok (.iconst 0, 1) := by decide +kernel
theorem dX12_given_2 : decode cX12_given 2 = .ok (.putfield 80, 3) := by decide +kernel
theorem dX12_given_5 : decode cX12_given 5 = .ok (.aload_n 0, 1) := by decide +kernel
theorem dX12_given_6 : decode cX12_given 6 = .ok (.bipush 6, 2) := by decide +kernel
theorem dX12_given_8 : decode cX12_given 8 = .ok (.iload_n 1, 1) := by decide +kernel
theorem dX12_given_9 : decode cX12_given 9 = .ok (.invokevirtual 87, 3) := by decide +kernel
theorem dX12_given_12 : decode cX12_given 12 = .ok (.ifCond .eq 16, 3) := by decide +kernel
theorem dX12_given_15 : decode cX12_given 15 = .ok (.aload_n 0, 1) := by decide +kernel
theorem dX12_given_16 : decode cX12_given 16 = .ok (.getfield 9, 3) := by decide +kernel
theorem dX12_given_19 : decode cX12_given 19 = .ok (.sipush 405, 3) := by decide +kernel
theorem dX12_given_22 : decode cX12_given 22 = .ok (.iload_n 1, 1) := by decide +kernel
theorem dX12_given_23 : decode cX12_given 23 = .ok (.iadd, 1) := by decide +kernel
theorem dX12_given_24 : decode cX12_given 24 = .ok (.iaload, 1) := by decide +kernel
theorem dX12_given_25 : decode cX12_given 25 = .ok (.goto 4, 3) := by decide +kernel
theorem dX12_given_28 : decode cX12_given 28 = .ok (.iconst (-1), 1) := by decide +kernel
theorem dX12_given_29 : decode cX12_given 29 = .ok (.ireturn, 1) := by decide +kernel
theorem dX12_lacks_0 : decode cX12_lacks 0 = .ok (.aload_n 0, 1) := by decide +kernel
theorem dX12_lacks_1 : decode cX12_lacks 1 = .ok (.iconst 0, 1) := by decide +kernel
theorem dX12_lacks_2 : decode cX12_lacks 2 = .ok (.putfield 80, 3) := by decide +kernel
theorem dX12_lacks_5 : decode cX12_lacks 5 = .ok (.aload_n 0, 1) := by decide +kernel
theorem dX12_lacks_6 : decode cX12_lacks 6 = .ok (.iload_n 1, 1) := by decide +kernel
theorem dX12_lacks_7 : decode cX12_lacks 7 = .ok (.invokevirtual 290, 3) := by decide +kernel
theorem dX12_lacks_10 : decode cX12_lacks 10 = .ok (.ifCond .ne 9, 3) := by decide +kernel
theorem dX12_lacks_13 : decode cX12_lacks 13 = .ok (.aload_n 0, 1) := by decide +kernel
theorem dX12_lacks_14 : decode cX12_lacks 14 = .ok (.iconst 1, 1) := by decide +kernel
theorem dX12_lacks_15 : decode cX12_lacks 15 = .ok (.invokevirtual 95, 3) := by decide +kernel
theorem dX12_lacks_18 : decode cX12_lacks 18 = .ok (.ireturn, 1) := by decide +kernel
theorem dX12_lacks_19 : decode cX12_lacks 19 = .ok (.iload_n 2, 1) := by decide +kernel
theorem dX12_lacks_20 : decode cX12_lacks 20 = .ok (.i2l, 1) := by decide +kernel
theorem dX12_lacks_21 : decode cX12_lacks 21 = .ok (.lconst 0, 1) := by decide +kernel
theorem dX12_lacks_22 : decode cX12_lacks 22 = .ok (.ldc2_w 103, 3) := by decide +kernel
theorem dX12_lacks_25 : decode cX12_lacks 25 = .ok (.invokestatic 83, 3) := by decide +kernel
theorem dX12_lacks_28 : decode cX12_lacks 28 = .ok (.ifCond .ne 9, 3) := by decide +kernel
theorem dX12_lacks_31 : decode cX12_lacks 31 = .ok (.aload_n 0, 1) := by decide +kernel
theorem dX12_lacks_32 : decode cX12_lacks 32 = .ok (.iconst 2, 1) := by decide +kernel
theorem dX12_lacks_33 : decode cX12_lacks 33 = .ok (.invokevirtual 95, 3) := by decide +kernel
theorem dX12_lacks_36 : decode cX12_lacks 36 = .ok (.ireturn, 1) := by decide +kernel
theorem dX12_lacks_37 : decode cX12_lacks 37 = .ok (.aload_n 0, 1) := by decide +kernel
theorem dX12_lacks_38 : decode cX12_lacks 38 = .ok (.invokevirtual 318, 3) := by decide +kernel
theorem dX12_lacks_41 : decode cX12_lacks 41 = .ok (.aload_n 0, 1) := by decide +kernel
theorem dX12_lacks_42 : decode cX12_lacks 42 = .ok (.sipush 200, 3) := by decide +kernel
theorem dX12_lacks_45 : decode cX12_lacks 45 = .ok (.invokevirtual 305, 3) := by decide +kernel
theorem dX12_lacks_48 : decode cX12_lacks 48 = .ok (.iconst 0, 1) := by decide +kernel
theorem dX12_lacks_49 : decode cX12_lacks 49 = .ok (.istore_n 3, 1) := by decide +kernel
theorem dX12_lacks_50 : decode cX12_lacks 50 = .ok (.iconst (-1), 1) := by decide +kernel
theorem dX12_lacks_51 : decode cX12_lacks 51 = .ok (.istore 4, 2) := by decide +kernel
theorem dX12_lacks_53 : decode cX12_lacks 53 = .ok (.iconst 0, 1) := by decide +kernel
theorem dX12_lacks_54 : decode cX12_lacks 54 = .ok (.istore 5, 2) := by decide +kernel
theorem dX12_lacks_56 : decode cX12_lacks 56 = .ok (.iconst 0, 1) := by decide +kernel
theorem dX12_lacks_57 : decode cX12_lacks 57 = .ok (.istore 6, 2) := by decide +kernel
theorem dX12_lacks_59 : decode cX12_lacks 59 = .ok (.iconst 0, 1) := by decide +kernel
theorem dX12_lacks_60 : decode cX12_lacks 60 = .ok (.istore 7, 2) := by decide +kernel
theorem dX12_lacks_62 : decode cX12_lacks 62 = .ok (.iload 7, 2) := by decide +kernel
theorem dX12_lacks_64 : decode cX12_lacks 64 = .ok (.sipush 200, 3) := by decide +kernel
theorem dX12_lacks_67 : decode cX12_lacks 67 = .ok (.if_icmp .gt 102, 3) := by decide +kernel
theorem dX12_lacks_70 : decode cX12_lacks 70 = .ok (.aload_n 0, 1) := by decide +kernel
theorem dX12_lacks_71 : decode cX12_lacks 71 = .ok (.getfield 41, 3) := by decide +kernel
theorem dX12_lacks_74 : decode cX12_lacks 74 = .ok (.aload_n 0, 1) := by decide +kernel
theorem dX12_lacks_75 : decode cX12_lacks 75 = .ok (.iconst 0, 1) := by decide +kernel
theorem dX12_lacks_76 : decode cX12_lacks 76 = .ok (.iload 7, 2) := by decide +kernel
theorem dX12_lacks_78 : decode cX12_lacks 78 = .ok (.invokevirtual 302, 3) := by decide +kernel
theorem dX12_lacks_81 : decode cX12_lacks 81 = .ok (.iaload, 1) := by decide +kernel
theorem dX12_lacks_82 : decode cX12_lacks 82 = .ok (.ldc_w 304, 3) := by decide +kernel
theorem dX12_lacks_85 : decode cX12_lacks 85 = .ok (.if_icmp .lt 7, 3) := by decide +kernel
theorem dX12_lacks_88 : decode cX12_lacks 88 = .ok (.iconst 1, 1) := by decide +kernel
theorem dX12_lacks_89 : decode cX12_lacks 89 = .ok (.goto 4, 3) := by decide +kernel
theorem dX12_lacks_92 : decode cX12_lacks 92 = .ok (.iconst 0, 1) := by decide +kernel
theorem dX12_lacks_93 : decode cX12_lacks 93 = .ok (.istore 8, 2) := by decide +kernel
theorem dX12_lacks_95 : decode cX12_lacks 95 = .ok (.iload_n 3, 1) := by decide +kernel
theorem dX12_lacks_96 : decode cX12_lacks 96 = .ok (.iload 8, 2) := by decide +kernel
theorem dX12_lacks_98 : decode cX12_lacks 98 = .ok (.ifCond .eq 7, 3) := by decide +kernel
theorem dX12_lacks_101 : decode cX12_lacks 101 = .ok (.iconst 1, 1) := by decide +kernel
theorem dX12_lacks_102 : decode cX12_lacks 102 = .ok (.goto 4, 3) := by decide +kernel
theorem dX12_lacks_105 : decode cX12_lacks 105 = .ok (.iconst 0, 1) := by decide +kernel
theorem dX12_lacks_106 : decode cX12_lacks 106 = .ok (.iadd, 1) := by decide +kernel
theorem dX12_lacks_107 : decode cX12_lacks 107 = .ok (.istore_n 3, 1) := by decide +kernel
theorem dX12_lacks_108 : decode cX12_lacks 108 = .ok (.iload 8, 2) := by decide +kernel
theorem dX12_lacks_110 : decode cX12_lacks 110 = .ok (.ifCond .eq 25, 3) := by decide +kernel
theorem dX12_lacks_113 : decode cX12_lacks 113 = .ok (.iload 4, 2) := by decide +kernel
theorem dX12_lacks_115 : decode cX12_lacks 115 = .ok (.iconst (-1), 1) := by decide +kernel
theorem dX12_lacks_116 : decode cX12_lacks 116 = .ok (.if_icmp .ne 19, 3) := by decide +kernel
theorem dX12_lacks_119 : decode cX12_lacks 119 = .ok (.aload_n 0, 1) := by decide +kernel
theorem dX12_lacks_120 : decode cX12_lacks 120 = .ok (.getfield 9, 3) := by decide +kernel
theorem dX12_lacks_123 : decode cX12_lacks 123 = .ok (.sipush 351, 3) := by decide +kernel
theorem dX12_lacks_126 : decode cX12_lacks 126 = .ok (.iload_n 1, 1) := by decide +kernel
theorem dX12_lacks_127 : decode cX12_lacks 127 = .ok (.iadd, 1) := by decide +kernel
theorem dX12_lacks_128 : decode cX12_lacks 128 = .ok (.iaload, 1) := by decide +kernel
theorem dX12_lacks_129 : decode cX12_lacks 129 = .ok (.iload 7, 2) := by decide +kernel
theorem dX12_lacks_131 : decode cX12_lacks 131 = .ok (.iadd, 1) := by decide +kernel
theorem dX12_lacks_132 : decode cX12_lacks 132 = .ok (.goto 5, 3) := by decide +kernel
theorem dX12_lacks_135 : decode cX12_lacks 135 = .ok (.iload 4, 2) := by decide +kernel
theorem dX12_lacks_137 : decode cX12_lacks 137 = .ok (.istore 4, 2) := by decide +kernel
theorem dX12_lacks_139 : decode cX12_lacks 139 = .ok (.iload 8, 2) := by decide +kernel
theorem dX12_lacks_141 : decode cX12_lacks 141 = .ok (.ifCond .eq 10, 3) := by decide +kernel
theorem dX12_lacks_144 : decode cX12_lacks 144 = .ok (.iload 5, 2) := by decide +kernel
theorem dX12_lacks_146 : decode cX12_lacks 146 = .ok (.iconst 1, 1) := by decide +kernel
theorem dX12_lacks_147 : decode cX12_lacks 147 = .ok (.iadd, 1) := by decide +kernel
theorem dX12_lacks_148 : decode cX12_lacks 148 = .ok (.goto 4, 3) := by decide +kernel
theorem dX12_lacks_151 : decode cX12_lacks 151 = .ok (.iconst 0, 1) := by decide +kernel
theorem dX12_lacks_152 : decode cX12_lacks 152 = .ok (.istore 5, 2) := by decide +kernel
theorem dX12_lacks_154 : decode cX12_lacks 154 = .ok (.iload 6, 2) := by decide +kernel
theorem dX12_lacks_156 : decode cX12_lacks 156 = .ok (.iload 5, 2) := by decide +kernel
theorem dX12_lacks_158 : decode cX12_lacks 158 = .ok (.invokestatic 123, 3) := by decide +kernel
theorem dX12_lacks_161 : decode cX12_lacks 161 = .ok (.istore 6, 2) := by decide +kernel
theorem dX12_lacks_163 : decode cX12_lacks 163 = .ok (.iinc 7 1, 3) := by decide +kernel
theorem dX12_lacks_166 : decode cX12_lacks 166 = .ok (.goto (-104), 3) := by decide +kernel
theorem dX12_lacks_169 : decode cX12_lacks 169 = .ok (.iload_n 2, 1) := by decide +kernel
theorem dX12_lacks_170 : decode cX12_lacks 170 = .ok (.ifCond .ne 7, 3) := by decide +kernel
theorem dX12_lacks_173 : decode cX12_lacks 173 = .ok (.iload_n 3, 1) := by decide +kernel
theorem dX12_lacks_174 : decode cX12_lacks 174 = .ok (.goto 15, 3) := by decide +kernel
theorem dX12_lacks_177 : decode cX12_lacks 177 = .ok (.iload_n 2, 1) := by decide +kernel
theorem dX12_lacks_178 : decode cX12_lacks 178 = .ok (.iconst 1, 1) := by decide +kernel
theorem dX12_lacks_179 : decode cX12_lacks 179 = .ok (.if_icmp .ne 8, 3) := by decide +kernel
theorem dX12_lacks_182 : decode cX12_lacks 182 = .ok (.iload 4, 2) := by decide +kernel
theorem dX12_lacks_184 : decode cX12_lacks 184 = .ok (.goto 5, 3) := by decide +kernel
theorem dX12_lacks_187 : decode cX12_lacks 187 = .ok (.iload 6, 2) := by decide +kernel
theorem dX12_lacks_189 : decode cX12_lacks 189 = .ok (.ireturn, 1) := by decide +kernel
theorem dX12_made_0 : decode cX12_made 0 = .ok (.aload_n 0, 1) := by decide +kernel
theorem dX12_made_1 : decode cX12_made 1 = .ok (.iconst 0, 1) := by decide +kernel
theorem dX12_made_2 : decode cX12_made 2 = .ok (.putfield 80, 3) := by decide +kernel
theorem dX12_made_5 : decode cX12_made 5 = .ok (.iload_n 1, 1) := by decide +kernel
theorem dX12_made_6 : decode cX12_made 6 = .ok (.i2l, 1) := by decide +kernel
theorem dX12_made_7 : decode cX12_made 7 = .ok (.lconst 1, 1) := by decide +kernel
theorem dX12_made_8 : decode cX12_made 8 = .ok (.ldc2_w 113, 3) := by decide +kernel
theorem dX12_made_11 : decode cX12_made 11 = .ok (.invokestatic 83, 3) := by decide +kernel
theorem dX12_made_14 : decode cX12_made 14 = .ok (.ifCond .ne 9, 3) := by decide +kernel
theorem dX12_made_17 : decode cX12_made 17 = .ok (.aload_n 0, 1) := by decide +kernel
theorem dX12_made_18 : decode cX12_made 18 = .ok (.iconst 1, 1) := by decide +kernel
theorem dX12_made_19 : decode cX12_made 19 = .ok (.invokevirtual 95, 3) := by decide +kernel
theorem dX12_made_22 : decode cX12_made 22 = .ok (.ireturn, 1) := by decide +kernel
theorem dX12_made_23 : decode cX12_made 23 = .ok (.iconst 0, 1) := by decide +kernel
theorem dX12_made_24 : decode cX12_made 24 = .ok (.istore_n 2, 1) := by decide +kernel
theorem dX12_made_25 : decode cX12_made 25 = .ok (.iload_n 2, 1) := by decide +kernel
theorem dX12_made_26 : decode cX12_made 26 = .ok (.sipush 1000, 3) := by decide +kernel
theorem dX12_made_29 : decode cX12_made 29 = .ok (.if_icmp .gt 96, 3) := by decide +kernel
theorem dX12_made_32 : decode cX12_made 32 = .ok (.aload_n 0, 1) := by decide +kernel
theorem dX12_made_33 : decode cX12_made 33 = .ok (.getfield 50, 3) := by decide +kernel
theorem dX12_made_36 : decode cX12_made 36 = .ok (.iload_n 2, 1) := by decide +kernel
theorem dX12_made_37 : decode cX12_made 37 = .ok (.iload_n 2, 1) := by decide +kernel
theorem dX12_made_38 : decode cX12_made 38 = .ok (.ifCond .ne 7, 3) := by decide +kernel
theorem dX12_made_41 : decode cX12_made 41 = .ok (.iconst 1, 1) := by decide +kernel
theorem dX12_made_42 : decode cX12_made 42 = .ok (.goto 4, 3) := by decide +kernel
theorem dX12_made_45 : decode cX12_made 45 = .ok (.iconst 0, 1) := by decide +kernel
theorem dX12_made_46 : decode cX12_made 46 = .ok (.bastore, 1) := by decide +kernel
theorem dX12_made_47 : decode cX12_made 47 = .ok (.iconst 0, 1) := by decide +kernel
theorem dX12_made_48 : decode cX12_made 48 = .ok (.istore_n 3, 1) := by decide +kernel
theorem dX12_made_49 : decode cX12_made 49 = .ok (.iload_n 3, 1) := by decide +kernel
theorem dX12_made_50 : decode cX12_made 50 = .ok (.aload_n 0, 1) := by decide +kernel
theorem dX12_made_51 : decode cX12_made 51 = .ok (.getfield 9, 3) := by decide +kernel
theorem dX12_made_54 : decode cX12_made 54 = .ok (.iconst 0, 1) := by decide +kernel
theorem dX12_made_55 : decode cX12_made 55 = .ok (.iaload, 1) := by decide +kernel
theorem dX12_made_56 : decode cX12_made 56 = .ok (.if_icmp .ge 47, 3) := by decide +kernel
theorem dX12_made_59 : decode cX12_made 59 = .ok (.aload_n 0, 1) := by decide +kernel
theorem dX12_made_60 : decode cX12_made 60 = .ok (.iload_n 3, 1) := by decide +kernel
theorem dX12_made_61 : decode cX12_made 61 = .ok (.invokevirtual 264, 3) := by decide +kernel
theorem dX12_made_64 : decode cX12_made 64 = .ok (.ifCond .le 33, 3) := by decide +kernel
theorem dX12_made_67 : decode cX12_made 67 = .ok (.aload_n 0, 1) := by decide +kernel
theorem dX12_made_68 : decode cX12_made 68 = .ok (.iload_n 3, 1) := by decide +kernel
theorem dX12_made_69 : decode cX12_made 69 = .ok (.invokevirtual 264, 3) := by decide +kernel
theorem dX12_made_72 : decode cX12_made 72 = .ok (.iload_n 2, 1) := by decide +kernel
theorem dX12_made_73 : decode cX12_made 73 = .ok (.if_icmp .gt 24, 3) := by decide +kernel
theorem dX12_made_76 : decode cX12_made 76 = .ok (.aload_n 0, 1) := by decide +kernel
theorem dX12_made_77 : decode cX12_made 77 = .ok (.getfield 50, 3) := by decide +kernel
theorem dX12_made_80 : decode cX12_made 80 = .ok (.iload_n 2, 1) := by decide +kernel
theorem dX12_made_81 : decode cX12_made 81 = .ok (.dup2, 1) := by decide +kernel
theorem dX12_made_82 : decode cX12_made 82 = .ok (.baload, 1) := by decide +kernel
theorem dX12_made_83 : decode cX12_made 83 = .ok (.aload_n 0, 1) := by decide +kernel
theorem dX12_made_84 : decode cX12_made 84 = .ok (.getfield 50, 3) := by decide +kernel
theorem dX12_made_87 : decode cX12_made 87 = .ok (.iload_n 2, 1) := by decide +kernel
theorem dX12_made_88 : decode cX12_made 88 = .ok (.aload_n 0, 1) := by decide +kernel
theorem dX12_made_89 : decode cX12_made 89 = .ok (.iload_n 3, 1) := by decide +kernel
theorem dX12_made_90 : decode cX12_made 90 = .ok (.invokevirtual 264, 3) := by decide +kernel
theorem dX12_made_93 : decode cX12_made 93 = .ok (.isub, 1) := by decide +kernel
theorem dX12_made_94 : decode cX12_made 94 = .ok (.baload, 1) := by decide +kernel
theorem dX12_made_95 : decode cX12_made 95 = .ok (.ior, 1) := by decide +kernel
theorem dX12_made_96 : decode cX12_made 96 = .ok (.bastore, 1) := by decide +kernel
theorem dX12_made_97 : decode cX12_made 97 = .ok (.iinc 3 1, 3) := by decide +kernel
theorem dX12_made_100 : decode cX12_made 100 = .ok (.goto (-51), 3) := by decide +kernel
theorem dX12_made_103 : decode cX12_made 103 = .ok (.iload_n 2, 1) := by decide +kernel
theorem dX12_made_104 : decode cX12_made 104 = .ok (.iload_n 1, 1) := by decide +kernel
theorem dX12_made_105 : decode cX12_made 105 = .ok (.if_icmp .lt 14, 3) := by decide +kernel
theorem dX12_made_108 : decode cX12_made 108 = .ok (.aload_n 0, 1) := by decide +kernel
theorem dX12_made_109 : decode cX12_made 109 = .ok (.getfield 50, 3) := by decide +kernel
theorem dX12_made_112 : decode cX12_made 112 = .ok (.iload_n 2, 1) := by decide +kernel
theorem dX12_made_113 : decode cX12_made 113 = .ok (.baload, 1) := by decide +kernel
theorem dX12_made_114 : decode cX12_made 114 = .ok (.ifCond .eq 5, 3) := by decide +kernel
theorem dX12_made_117 : decode cX12_made 117 = .ok (.iload_n 2, 1) := by decide +kernel
theorem dX12_made_118 : decode cX12_made 118 = .ok (.ireturn, 1) := by decide +kernel
theorem dX12_made_119 : decode cX12_made 119 = .ok (.iinc 2 1, 3) := by decide +kernel
theorem dX12_made_122 : decode cX12_made 122 = .ok (.goto (-97), 3) := by decide +kernel
theorem dX12_made_125 : decode cX12_made 125 = .ok (.iconst (-1), 1) := by decide +kernel
theorem dX12_made_126 : decode cX12_made 126 = .ok (.ireturn, 1) := by decide +kernel
theorem dX12_there_0 : decode cX12_there 0 = .ok (.aload_n 0, 1) := by decide +kernel
theorem dX12_there_1 : decode cX12_there 1 = .ok (.getfield 9, 3) := by decide +kernel
theorem dX12_there_4 : decode cX12_there 4 = .ok (.sipush 327, 3) := by decide +kernel
theorem dX12_there_7 : decode cX12_there 7 = .ok (.iload_n 1, 1) := by decide +kernel
theorem dX12_there_8 : decode cX12_there 8 = .ok (.iadd, 1) := by decide +kernel
theorem dX12_there_9 : decode cX12_there 9 = .ok (.iaload, 1) := by decide +kernel
theorem dX12_there_10 : decode cX12_there 10 = .ok (.istore_n 2, 1) := by decide +kernel
theorem dX12_there_11 : decode cX12_there 11 = .ok (.iconst 0, 1) := by decide +kernel
theorem dX12_there_12 : decode cX12_there 12 = .ok (.istore_n 3, 1) := by decide +kernel
theorem dX12_there_13 : decode cX12_there 13 = .ok (.iload_n 3, 1) := by decide +kernel
theorem dX12_there_14 : decode cX12_there 14 = .ok (.aload_n 0, 1) := by decide +kernel
theorem dX12_there_15 : decode cX12_there 15 = .ok (.getfield 9, 3) := by decide +kernel
theorem dX12_there_18 : decode cX12_there 18 = .ok (.iconst 0, 1) := by decide +kernel
theorem dX12_there_19 : decode cX12_there 19 = .ok (.iaload, 1) := by decide +kernel
theorem dX12_there_20 : decode cX12_there 20 = .ok (.if_icmp .ge 58, 3) := by decide +kernel
theorem dX12_there_23 : decode cX12_there 23 = .ok (.iconst 1, 1) := by decide +kernel
theorem dX12_there_24 : decode cX12_there 24 = .ok (.istore 4, 2) := by decide +kernel
theorem dX12_there_26 : decode cX12_there 26 = .ok (.iload 4, 2) := by decide +kernel
theorem dX12_there_28 : decode cX12_there 28 = .ok (.aload_n 0, 1) := by decide +kernel
theorem dX12_there_29 : decode cX12_there 29 = .ok (.getfield 9, 3) := by decide +kernel
theorem dX12_there_32 : decode cX12_there 32 = .ok (.aload_n 0, 1) := by decide +kernel
theorem dX12_there_33 : decode cX12_there 33 = .ok (.iload_n 3, 1) := by decide +kernel
theorem dX12_there_34 : decode cX12_there 34 = .ok (.invokevirtual 293, 3) := by decide +kernel
theorem dX12_there_37 : decode cX12_there 37 = .ok (.iaload, 1) := by decide +kernel
theorem dX12_there_38 : decode cX12_there 38 = .ok (.if_icmp .gt 34, 3) := by decide +kernel
theorem dX12_there_41 : decode cX12_there 41 = .ok (.iload_n 2, 1) := by decide +kernel
theorem dX12_there_42 : decode cX12_there 42 = .ok (.aload_n 0, 1) := by decide +kernel
theorem dX12_there_43 : decode cX12_there 43 = .ok (.getfield 9, 3) := by decide +kernel
theorem dX12_there_46 : decode cX12_there 46 = .ok (.aload_n 0, 1) := by decide +kernel
theorem dX12_there_47 : decode cX12_there 47 = .ok (.iload_n 3, 1) := by decide +kernel
theorem dX12_there_48 : decode cX12_there 48 = .ok (.invokevirtual 293, 3) := by decide +kernel
theorem dX12_there_51 : decode cX12_there 51 = .ok (.iload 4, 2) := by decide +kernel
theorem dX12_there_53 : decode cX12_there 53 = .ok (.iadd, 1) := by decide +kernel
theorem dX12_there_54 : decode cX12_there 54 = .ok (.iaload, 1) := by decide +kernel
theorem dX12_there_55 : decode cX12_there 55 = .ok (.iload_n 1, 1) := by decide +kernel
theorem dX12_there_56 : decode cX12_there 56 = .ok (.if_icmp .ne 7, 3) := by decide +kernel
theorem dX12_there_59 : decode cX12_there 59 = .ok (.iconst 1, 1) := by decide +kernel
theorem dX12_there_60 : decode cX12_there 60 = .ok (.goto 4, 3) := by decide +kernel
theorem dX12_there_63 : decode cX12_there 63 = .ok (.iconst 0, 1) := by decide +kernel
theorem dX12_there_64 : decode cX12_there 64 = .ok (.iadd, 1) := by decide +kernel
theorem dX12_there_65 : decode cX12_there 65 = .ok (.istore_n 2, 1) := by decide +kernel
theorem dX12_there_66 : decode cX12_there 66 = .ok (.iinc 4 1, 3) := by decide +kernel
theorem dX12_there_69 : decode cX12_there 69 = .ok (.goto (-43), 3) := by decide +kernel
theorem dX12_there_72 : decode cX12_there 72 = .ok (.iinc 3 1, 3) := by decide +kernel
theorem dX12_there_75 : decode cX12_there 75 = .ok (.goto (-62), 3) := by decide +kernel
theorem dX12_there_78 : decode cX12_there 78 = .ok (.iload_n 2, 1) := by decide +kernel
theorem dX12_there_79 : decode cX12_there 79 = .ok (.ireturn, 1) := by decide +kernel
theorem dX12_due_0 : decode cX12_due 0 = .ok (.aload_n 0, 1) := by decide +kernel
theorem dX12_due_1 : decode cX12_due 1 = .ok (.getfield 9, 3) := by decide +kernel
theorem dX12_due_4 : decode cX12_due 4 = .ok (.sipush 335, 3) := by decide +kernel
theorem dX12_due_7 : decode cX12_due 7 = .ok (.iload_n 1, 1) := by decide +kernel
theorem dX12_due_8 : decode cX12_due 8 = .ok (.iadd, 1) := by decide +kernel
theorem dX12_due_9 : decode cX12_due 9 = .ok (.iaload, 1) := by decide +kernel
theorem dX12_due_10 : decode cX12_due 10 = .ok (.aload_n 0, 1) := by decide +kernel
theorem dX12_due_11 : decode cX12_due 11 = .ok (.getfield 9, 3) := by decide +kernel
theorem dX12_due_14 : decode cX12_due 14 = .ok (.sipush 343, 3) := by decide +kernel
theorem dX12_due_17 : decode cX12_due 17 = .ok (.iload_n 1, 1) := by decide +kernel
theorem dX12_due_18 : decode cX12_due 18 = .ok (.iadd, 1) := by decide +kernel
theorem dX12_due_19 : decode cX12_due 19 = .ok (.iaload, 1) := by decide +kernel
theorem dX12_due_20 : decode cX12_due 20 = .ok (.iadd, 1) := by decide +kernel
theorem dX12_due_21 : decode cX12_due 21 = .ok (.ireturn, 1) := by decide +kernel
theorem dX12_wheel_0 : decode cX12_wheel 0 = .ok (.aload_n 0, 1) := by decide +kernel
theorem dX12_wheel_1 : decode cX12_wheel 1 = .ok (.iconst 0, 1) := by decide +kernel
theorem dX12_wheel_2 : decode cX12_wheel 2 = .ok (.putfield 80, 3) := by decide +kernel
theorem dX12_wheel_5 : decode cX12_wheel 5 = .ok (.aload_n 0, 1) := by decide +kernel
theorem dX12_wheel_6 : decode cX12_wheel 6 = .ok (.iload_n 1, 1) := by decide +kernel
theorem dX12_wheel_7 : decode cX12_wheel 7 = .ok (.invokevirtual 99, 3) := by decide +kernel
theorem dX12_wheel_10 : decode cX12_wheel 10 = .ok (.ifCond .ne 9, 3) := by decide +kernel
theorem dX12_wheel_13 : decode cX12_wheel 13 = .ok (.aload_n 0, 1) := by decide +kernel
theorem dX12_wheel_14 : decode cX12_wheel 14 = .ok (.iconst 1, 1) := by decide +kernel
theorem dX12_wheel_15 : decode cX12_wheel 15 = .ok (.invokevirtual 95, 3) := by decide +kernel
theorem dX12_wheel_18 : decode cX12_wheel 18 = .ok (.ireturn, 1) := by decide +kernel
theorem dX12_wheel_19 : decode cX12_wheel 19 = .ok (.iload_n 2, 1) := by decide +kernel
theorem dX12_wheel_20 : decode cX12_wheel 20 = .ok (.i2l, 1) := by decide +kernel
theorem dX12_wheel_21 : decode cX12_wheel 21 = .ok (.lconst 0, 1) := by decide +kernel
theorem dX12_wheel_22 : decode cX12_wheel 22 = .ok (.ldc2_w 115, 3) := by decide +kernel
theorem dX12_wheel_25 : decode cX12_wheel 25 = .ok (.invokestatic 83, 3) := by decide +kernel
theorem dX12_wheel_28 : decode cX12_wheel 28 = .ok (.ifCond .ne 9, 3) := by decide +kernel
theorem dX12_wheel_31 : decode cX12_wheel 31 = .ok (.aload_n 0, 1) := by decide +kernel
theorem dX12_wheel_32 : decode cX12_wheel 32 = .ok (.iconst 2, 1) := by decide +kernel
theorem dX12_wheel_33 : decode cX12_wheel 33 = .ok (.invokevirtual 95, 3) := by decide +kernel
theorem dX12_wheel_36 : decode cX12_wheel 36 = .ok (.ireturn, 1) := by decide +kernel
theorem dX12_wheel_37 : decode cX12_wheel 37 = .ok (.iload_n 2, 1) := by decide +kernel
theorem dX12_wheel_38 : decode cX12_wheel 38 = .ok (.ifCond .ne 16, 3) := by decide +kernel
theorem dX12_wheel_41 : decode cX12_wheel 41 = .ok (.aload_n 0, 1) := by decide +kernel
theorem dX12_wheel_42 : decode cX12_wheel 42 = .ok (.getfield 9, 3) := by decide +kernel
theorem dX12_wheel_45 : decode cX12_wheel 45 = .ok (.sipush 343, 3) := by decide +kernel
theorem dX12_wheel_48 : decode cX12_wheel 48 = .ok (.iload_n 1, 1) := by decide +kernel
theorem dX12_wheel_49 : decode cX12_wheel 49 = .ok (.iadd, 1) := by decide +kernel
theorem dX12_wheel_50 : decode cX12_wheel 50 = .ok (.iaload, 1) := by decide +kernel
theorem dX12_wheel_51 : decode cX12_wheel 51 = .ok (.goto 40, 3) := by decide +kernel
theorem dX12_wheel_54 : decode cX12_wheel 54 = .ok (.iload_n 2, 1) := by decide +kernel
theorem dX12_wheel_55 : decode cX12_wheel 55 = .ok (.iconst 1, 1) := by decide +kernel
theorem dX12_wheel_56 : decode cX12_wheel 56 = .ok (.if_icmp .ne 11, 3) := by decide +kernel
theorem dX12_wheel_59 : decode cX12_wheel 59 = .ok (.aload_n 0, 1) := by decide +kernel
theorem dX12_wheel_60 : decode cX12_wheel 60 = .ok (.iload_n 1, 1) := by decide +kernel
theorem dX12_wheel_61 : decode cX12_wheel 61 = .ok (.invokevirtual 326, 3) := by decide +kernel
theorem dX12_wheel_64 : decode cX12_wheel 64 = .ok (.goto 27, 3) := by decide +kernel
theorem dX12_wheel_67 : decode cX12_wheel 67 = .ok (.iload_n 2, 1) := by decide +kernel
theorem dX12_wheel_68 : decode cX12_wheel 68 = .ok (.iconst 2, 1) := by decide +kernel
theorem dX12_wheel_69 : decode cX12_wheel 69 = .ok (.if_icmp .ne 11, 3) := by decide +kernel
theorem dX12_wheel_72 : decode cX12_wheel 72 = .ok (.aload_n 0, 1) := by decide +kernel
theorem dX12_wheel_73 : decode cX12_wheel 73 = .ok (.iload_n 1, 1) := by decide +kernel
theorem dX12_wheel_74 : decode cX12_wheel 74 = .ok (.invokevirtual 329, 3) := by decide +kernel
theorem dX12_wheel_77 : decode cX12_wheel 77 = .ok (.goto 14, 3) := by decide +kernel
theorem dX12_wheel_80 : decode cX12_wheel 80 = .ok (.aload_n 0, 1) := by decide +kernel
theorem dX12_wheel_81 : decode cX12_wheel 81 = .ok (.iload_n 1, 1) := by decide +kernel
theorem dX12_wheel_82 : decode cX12_wheel 82 = .ok (.invokevirtual 329, 3) := by decide +kernel
theorem dX12_wheel_85 : decode cX12_wheel 85 = .ok (.aload_n 0, 1) := by decide +kernel
theorem dX12_wheel_86 : decode cX12_wheel 86 = .ok (.iload_n 1, 1) := by decide +kernel
theorem dX12_wheel_87 : decode cX12_wheel 87 = .ok (.invokevirtual 326, 3) := by decide +kernel
theorem dX12_wheel_90 : decode cX12_wheel 90 = .ok (.isub, 1) := by decide +kernel
theorem dX12_wheel_91 : decode cX12_wheel 91 = .ok (.ireturn, 1) := by decide +kernel
theorem dX12_cost_0 : decode cX12_cost 0 = .ok (.aload_n 0, 1) := by decide +kernel
theorem dX12_cost_1 : decode cX12_cost 1 = .ok (.iconst 0, 1) := by decide +kernel
theorem dX12_cost_2 : decode cX12_cost 2 = .ok (.putfield 80, 3) := by decide +kernel
theorem dX12_cost_5 : decode cX12_cost 5 = .ok (.iload_n 1, 1) := by decide +kernel
theorem dX12_cost_6 : decode cX12_cost 6 = .ok (.i2l, 1) := by decide +kernel
theorem dX12_cost_7 : decode cX12_cost 7 = .ok (.lconst 0, 1) := by decide +kernel
theorem dX12_cost_8 : decode cX12_cost 8 = .ok (.ldc2_w 115, 3) := by decide +kernel
theorem dX12_cost_11 : decode cX12_cost 11 = .ok (.invokestatic 83, 3) := by decide +kernel
theorem dX12_cost_14 : decode cX12_cost 14 = .ok (.ifCond .ne 9, 3) := by decide +kernel
theorem dX12_cost_17 : decode cX12_cost 17 = .ok (.aload_n 0, 1) := by decide +kernel
theorem dX12_cost_18 : decode cX12_cost 18 = .ok (.iconst 1, 1) := by decide +kernel
theorem dX12_cost_19 : decode cX12_cost 19 = .ok (.invokevirtual 95, 3) := by decide +kernel
theorem dX12_cost_22 : decode cX12_cost 22 = .ok (.ireturn, 1) := by decide +kernel
theorem dX12_cost_23 : decode cX12_cost 23 = .ok (.iload_n 2, 1) := by decide +kernel
theorem dX12_cost_24 : decode cX12_cost 24 = .ok (.i2l, 1) := by decide +kernel
theorem dX12_cost_25 : decode cX12_cost 25 = .ok (.lconst 0, 1) := by decide +kernel
theorem dX12_cost_26 : decode cX12_cost 26 = .ok (.ldc2_w 93, 3) := by decide +kernel
theorem dX12_cost_29 : decode cX12_cost 29 = .ok (.invokestatic 83, 3) := by decide +kernel
theorem dX12_cost_32 : decode cX12_cost 32 = .ok (.ifCond .eq 15, 3) := by decide +kernel
theorem dX12_cost_35 : decode cX12_cost 35 = .ok (.aload_n 0, 1) := by decide +kernel
theorem dX12_cost_36 : decode cX12_cost 36 = .ok (.bipush 11, 2) := by decide +kernel
theorem dX12_cost_38 : decode cX12_cost 38 = .ok (.iload_n 1, 1) := by decide +kernel
theorem dX12_cost_39 : decode cX12_cost 39 = .ok (.iadd, 1) := by decide +kernel
theorem dX12_cost_40 : decode cX12_cost 40 = .ok (.iload_n 2, 1) := by decide +kernel
theorem dX12_cost_41 : decode cX12_cost 41 = .ok (.invokevirtual 109, 3) := by decide +kernel
theorem dX12_cost_44 : decode cX12_cost 44 = .ok (.goto 8, 3) := by decide +kernel
theorem dX12_cost_47 : decode cX12_cost 47 = .ok (.aload_n 0, 1) := by decide +kernel
theorem dX12_cost_48 : decode cX12_cost 48 = .ok (.iconst 2, 1) := by decide +kernel
theorem dX12_cost_49 : decode cX12_cost 49 = .ok (.invokevirtual 95, 3) := by decide +kernel
theorem dX12_cost_52 : decode cX12_cost 52 = .ok (.ireturn, 1) := by decide +kernel
theorem dX12_slugs_0 : decode cX12_slugs 0 = .ok (.aload_n 0, 1) := by decide +kernel
theorem dX12_slugs_1 : decode cX12_slugs 1 = .ok (.getfield 9, 3) := by decide +kernel
theorem dX12_slugs_4 : decode cX12_slugs 4 = .ok (.iconst 0, 1) := by decide +kernel
theorem dX12_slugs_5 : decode cX12_slugs 5 = .ok (.iaload, 1) := by decide +kernel
theorem dX12_slugs_6 : decode cX12_slugs 6 = .ok (.istore_n 1, 1) := by decide +kernel
theorem dX12_slugs_7 : decode cX12_slugs 7 = .ok (.iconst 0, 1) := by decide +kernel
theorem dX12_slugs_8 : decode cX12_slugs 8 = .ok (.istore_n 2, 1) := by decide +kernel
theorem dX12_slugs_9 : decode cX12_slugs 9 = .ok (.iload_n 2, 1) := by decide +kernel
theorem dX12_slugs_10 : decode cX12_slugs 10 = .ok (.iload_n 1, 1) := by decide +kernel
theorem dX12_slugs_11 : decode cX12_slugs 11 = .ok (.if_icmp .ge 73, 3) := by decide +kernel
theorem dX12_slugs_14 : decode cX12_slugs 14 = .ok (.aload_n 0, 1) := by decide +kernel
theorem dX12_slugs_15 : decode cX12_slugs 15 = .ok (.getfield 56, 3) := by decide +kernel
theorem dX12_slugs_18 : decode cX12_slugs 18 = .ok (.iload_n 2, 1) := by decide +kernel
theorem dX12_slugs_19 : decode cX12_slugs 19 = .ok (.iconst 0, 1) := by decide +kernel
theorem dX12_slugs_20 : decode cX12_slugs 20 = .ok (.iastore, 1) := by decide +kernel
theorem dX12_slugs_21 : decode cX12_slugs 21 = .ok (.aload_n 0, 1) := by decide +kernel
theorem dX12_slugs_22 : decode cX12_slugs 22 = .ok (.getfield 53, 3) := by decide +kernel
theorem dX12_slugs_25 : decode cX12_slugs 25 = .ok (.iload_n 2, 1) := by decide +kernel
theorem dX12_slugs_26 : decode cX12_slugs 26 = .ok (.iaload, 1) := by decide +kernel
theorem dX12_slugs_27 : decode cX12_slugs 27 = .ok (.ifCond .gt 6, 3) := by decide +kernel
theorem dX12_slugs_30 : decode cX12_slugs 30 = .ok (.goto 48, 3) := by decide +kernel
theorem dX12_slugs_33 : decode cX12_slugs 33 = .ok (.aload_n 0, 1) := by decide +kernel
theorem dX12_slugs_34 : decode cX12_slugs 34 = .ok (.iload_n 2, 1) := by decide +kernel
theorem dX12_slugs_35 : decode cX12_slugs 35 = .ok (.invokevirtual 261, 3) := by decide +kernel
theorem dX12_slugs_38 : decode cX12_slugs 38 = .ok (.iconst 0, 1) := by decide +kernel
theorem dX12_slugs_39 : decode cX12_slugs 39 = .ok (.istore_n 3, 1) := by decide +kernel
theorem dX12_slugs_40 : decode cX12_slugs 40 = .ok (.iload_n 3, 1) := by decide +kernel
theorem dX12_slugs_41 : decode cX12_slugs 41 = .ok (.iload_n 1, 1) := by decide +kernel
theorem dX12_slugs_42 : decode cX12_slugs 42 = .ok (.if_icmp .ge 36, 3) := by decide +kernel
theorem dX12_slugs_45 : decode cX12_slugs 45 = .ok (.aload_n 0, 1) := by decide +kernel
theorem dX12_slugs_46 : decode cX12_slugs 46 = .ok (.getfield 56, 3) := by decide +kernel
theorem dX12_slugs_49 : decode cX12_slugs 49 = .ok (.iload_n 2, 1) := by decide +kernel
theorem dX12_slugs_50 : decode cX12_slugs 50 = .ok (.dup2, 1) := by decide +kernel
theorem dX12_slugs_51 : decode cX12_slugs 51 = .ok (.iaload, 1) := by decide +kernel
theorem dX12_slugs_52 : decode cX12_slugs 52 = .ok (.aload_n 0, 1) := by decide +kernel
theorem dX12_slugs_53 : decode cX12_slugs 53 = .ok (.getfield 36, 3) := by decide +kernel
theorem dX12_slugs_56 : decode cX12_slugs 56 = .ok (.iload_n 3, 1) := by decide +kernel
theorem dX12_slugs_57 : decode cX12_slugs 57 = .ok (.laload, 1) := by decide +kernel
theorem dX12_slugs_58 : decode cX12_slugs 58 = .ok (.lconst 0, 1) := by decide +kernel
theorem dX12_slugs_59 : decode cX12_slugs 59 = .ok (.lcmp, 1) := by decide +kernel
theorem dX12_slugs_60 : decode cX12_slugs 60 = .ok (.ifCond .le 9, 3) := by decide +kernel
theorem dX12_slugs_63 : decode cX12_slugs 63 = .ok (.iconst 1, 1) := by decide +kernel
theorem dX12_slugs_64 : decode cX12_slugs 64 = .ok (.iload_n 3, 1) := by decide +kernel
theorem dX12_slugs_65 : decode cX12_slugs 65 = .ok (.ishl, 1) := by decide +kernel
theorem dX12_slugs_66 : decode cX12_slugs 66 = .ok (.goto 4, 3) := by decide +kernel
theorem dX12_slugs_69 : decode cX12_slugs 69 = .ok (.iconst 0, 1) := by decide +kernel
theorem dX12_slugs_70 : decode cX12_slugs 70 = .ok (.ior, 1) := by decide +kernel
theorem dX12_slugs_71 : decode cX12_slugs 71 = .ok (.iastore, 1) := by decide +kernel
theorem dX12_slugs_72 : decode cX12_slugs 72 = .ok (.iinc 3 1, 3) := by decide +kernel
theorem dX12_slugs_75 : decode cX12_slugs 75 = .ok (.goto (-35), 3) := by decide +kernel
theorem dX12_slugs_78 : decode cX12_slugs 78 = .ok (.iinc 2 1, 3) := by decide +kernel
theorem dX12_slugs_81 : decode cX12_slugs 81 = .ok (.goto (-72), 3) := by decide +kernel
theorem dX12_slugs_84 : decode cX12_slugs 84 = .ok (.ldc_w 304, 3) := by decide +kernel
theorem dX12_slugs_87 : decode cX12_slugs 87 = .ok (.istore_n 2, 1) := by decide +kernel
theorem dX12_slugs_88 : decode cX12_slugs 88 = .ok (.iconst 0, 1) := by decide +kernel
theorem dX12_slugs_89 : decode cX12_slugs 89 = .ok (.istore_n 3, 1) := by decide +kernel
theorem dX12_slugs_90 : decode cX12_slugs 90 = .ok (.iload_n 3, 1) := by decide +kernel
theorem dX12_slugs_91 : decode cX12_slugs 91 = .ok (.iconst 1, 1) := by decide +kernel
theorem dX12_slugs_92 : decode cX12_slugs 92 = .ok (.iload_n 1, 1) := by decide +kernel
theorem dX12_slugs_93 : decode cX12_slugs 93 = .ok (.ishl, 1) := by decide +kernel
theorem dX12_slugs_94 : decode cX12_slugs 94 = .ok (.if_icmp .ge 125, 3) := by decide +kernel
theorem dX12_slugs_97 : decode cX12_slugs 97 = .ok (.iconst 0, 1) := by decide +kernel
theorem dX12_slugs_98 : decode cX12_slugs 98 = .ok (.istore 4, 2) := by decide +kernel
theorem dX12_slugs_100 : decode cX12_slugs 100 = .ok (.iconst 0, 1) := by decide +kernel
theorem dX12_slugs_101 : decode cX12_slugs 101 = .ok (.istore 5, 2) := by decide +kernel
theorem dX12_slugs_103 : decode cX12_slugs 103 = .ok (.iconst 0, 1) := by decide +kernel
theorem dX12_slugs_104 : decode cX12_slugs 104 = .ok (.istore 6, 2) := by decide +kernel
theorem dX12_slugs_106 : decode cX12_slugs 106 = .ok (.iload 6, 2) := by decide +kernel
theorem dX12_slugs_108 : decode cX12_slugs 108 = .ok (.iload_n 1, 1) := by decide +kernel
theorem dX12_slugs_109 : decode cX12_slugs 109 = .ok (.if_icmp .ge 50, 3) := by decide +kernel
theorem dX12_slugs_112 : decode cX12_slugs 112 = .ok (.iload_n 3, 1) := by decide +kernel
theorem dX12_slugs_113 : decode cX12_slugs 113 = .ok (.iload 6, 2) := by decide +kernel
theorem dX12_slugs_115 : decode cX12_slugs 115 = .ok (.ishr, 1) := by decide +kernel
theorem dX12_slugs_116 : decode cX12_slugs 116 = .ok (.iconst 1, 1) := by decide +kernel
theorem dX12_slugs_117 : decode cX12_slugs 117 = .ok (.iand, 1) := by decide +kernel
theorem dX12_slugs_118 : decode cX12_slugs 118 = .ok (.iconst 1, 1) := by decide +kernel
theorem dX12_slugs_119 : decode cX12_slugs 119 = .ok (.if_icmp .ne 18, 3) := by decide +kernel
theorem dX12_slugs_122 : decode cX12_slugs 122 = .ok (.iload 5, 2) := by decide +kernel
theorem dX12_slugs_124 : decode cX12_slugs 124 = .ok (.aload_n 0, 1) := by decide +kernel
theorem dX12_slugs_125 : decode cX12_slugs 125 = .ok (.getfield 56, 3) := by decide +kernel
theorem dX12_slugs_128 : decode cX12_slugs 128 = .ok (.iload 6, 2) := by decide +kernel
theorem dX12_slugs_130 : decode cX12_slugs 130 = .ok (.iaload, 1) := by decide +kernel
theorem dX12_slugs_131 : decode cX12_slugs 131 = .ok (.ior, 1) := by decide +kernel
theorem dX12_slugs_132 : decode cX12_slugs 132 = .ok (.istore 5, 2) := by decide +kernel
theorem dX12_slugs_134 : decode cX12_slugs 134 = .ok (.goto 19, 3) := by decide +kernel
theorem dX12_slugs_137 : decode cX12_slugs 137 = .ok (.iload 4, 2) := by decide +kernel
theorem dX12_slugs_139 : decode cX12_slugs 139 = .ok (.iconst 0, 1) := by decide +kernel
theorem dX12_slugs_140 : decode cX12_slugs 140 = .ok (.aload_n 0, 1) := by decide +kernel
theorem dX12_slugs_141 : decode cX12_slugs 141 = .ok (.getfield 53, 3) := by decide +kernel
theorem dX12_slugs_144 : decode cX12_slugs 144 = .ok (.iload 6, 2) := by decide +kernel
theorem dX12_slugs_146 : decode cX12_slugs 146 = .ok (.iaload, 1) := by decide +kernel
theorem dX12_slugs_147 : decode cX12_slugs 147 = .ok (.invokestatic 123, 3) := by decide +kernel
theorem dX12_slugs_150 : decode cX12_slugs 150 = .ok (.iadd, 1) := by decide +kernel
theorem dX12_slugs_151 : decode cX12_slugs 151 = .ok (.istore 4, 2) := by decide +kernel
theorem dX12_slugs_153 : decode cX12_slugs 153 = .ok (.iinc 6 1, 3) := by decide +kernel
theorem dX12_slugs_156 : decode cX12_slugs 156 = .ok (.goto (-50), 3) := by decide +kernel
theorem dX12_slugs_159 : decode cX12_slugs 159 = .ok (.iconst 0, 1) := by decide +kernel
theorem dX12_slugs_160 : decode cX12_slugs 160 = .ok (.istore 6, 2) := by decide +kernel
theorem dX12_slugs_162 : decode cX12_slugs 162 = .ok (.iload 6, 2) := by decide +kernel
theorem dX12_slugs_164 : decode cX12_slugs 164 = .ok (.iload_n 1, 1) := by decide +kernel
theorem dX12_slugs_165 : decode cX12_slugs 165 = .ok (.if_icmp .ge 41, 3) := by decide +kernel
theorem dX12_slugs_168 : decode cX12_slugs 168 = .ok (.iload 4, 2) := by decide +kernel
theorem dX12_slugs_170 : decode cX12_slugs 170 = .ok (.iload 5, 2) := by decide +kernel
theorem dX12_slugs_172 : decode cX12_slugs 172 = .ok (.iload 6, 2) := by decide +kernel
theorem dX12_slugs_174 : decode cX12_slugs 174 = .ok (.ishr, 1) := by decide +kernel
theorem dX12_slugs_175 : decode cX12_slugs 175 = .ok (.iconst 1, 1) := by decide +kernel
theorem dX12_slugs_176 : decode cX12_slugs 176 = .ok (.iand, 1) := by decide +kernel
theorem dX12_slugs_177 : decode cX12_slugs 177 = .ok (.iconst 1, 1) := by decide +kernel
theorem dX12_slugs_178 : decode cX12_slugs 178 = .ok (.if_icmp .ne 18, 3) := by decide +kernel
theorem dX12_slugs_181 : decode cX12_slugs 181 = .ok (.iconst 0, 1) := by decide +kernel
theorem dX12_slugs_182 : decode cX12_slugs 182 = .ok (.aload_n 0, 1) := by decide +kernel
theorem dX12_slugs_183 : decode cX12_slugs 183 = .ok (.getfield 53, 3) := by decide +kernel
theorem dX12_slugs_186 : decode cX12_slugs 186 = .ok (.iload 6, 2) := by decide +kernel
theorem dX12_slugs_188 : decode cX12_slugs 188 = .ok (.iaload, 1) := by decide +kernel
theorem dX12_slugs_189 : decode cX12_slugs 189 = .ok (.ineg, 1) := by decide +kernel
theorem dX12_slugs_190 : decode cX12_slugs 190 = .ok (.invokestatic 123, 3) := by decide +kernel
theorem dX12_slugs_193 : decode cX12_slugs 193 = .ok (.goto 4, 3) := by decide +kernel
theorem dX12_slugs_196 : decode cX12_slugs 196 = .ok (.iconst 0, 1) := by decide +kernel
theorem dX12_slugs_197 : decode cX12_slugs 197 = .ok (.iadd, 1) := by decide +kernel
theorem dX12_slugs_198 : decode cX12_slugs 198 = .ok (.istore 4, 2) := by decide +kernel
theorem dX12_slugs_200 : decode cX12_slugs 200 = .ok (.iinc 6 1, 3) := by decide +kernel
theorem dX12_slugs_203 : decode cX12_slugs 203 = .ok (.goto (-41), 3) := by decide +kernel
theorem dX12_slugs_206 : decode cX12_slugs 206 = .ok (.iload_n 2, 1) := by decide +kernel
theorem dX12_slugs_207 : decode cX12_slugs 207 = .ok (.iload 4, 2) := by decide +kernel
theorem dX12_slugs_209 : decode cX12_slugs 209 = .ok (.invokestatic 228, 3) := by decide +kernel
theorem dX12_slugs_212 : decode cX12_slugs 212 = .ok (.istore_n 2, 1) := by decide +kernel
theorem dX12_slugs_213 : decode cX12_slugs 213 = .ok (.iinc 3 1, 3) := by decide +kernel
theorem dX12_slugs_216 : decode cX12_slugs 216 = .ok (.goto (-126), 3) := by decide +kernel
theorem dX12_slugs_219 : decode cX12_slugs 219 = .ok (.iload_n 2, 1) := by decide +kernel
theorem dX12_slugs_220 : decode cX12_slugs 220 = .ok (.ireturn, 1) := by decide +kernel
theorem dX12_explain_0 : decode cX12_explain 0 = .ok (.aload_n 0, 1) := by decide +kernel
theorem dX12_explain_1 : decode cX12_explain 1 = .ok (.iconst 0, 1) := by decide +kernel
theorem dX12_explain_2 : decode cX12_explain 2 = .ok (.putfield 80, 3) := by decide +kernel
theorem dX12_explain_5 : decode cX12_explain 5 = .ok (.iload_n 1, 1) := by decide +kernel
theorem dX12_explain_6 : decode cX12_explain 6 = .ok (.i2l, 1) := by decide +kernel
theorem dX12_explain_7 : decode cX12_explain 7 = .ok (.lconst 0, 1) := by decide +kernel
theorem dX12_explain_8 : decode cX12_explain 8 = .ok (.ldc2_w 103, 3) := by decide +kernel
theorem dX12_explain_11 : decode cX12_explain 11 = .ok (.invokestatic 83, 3) := by decide +kernel
theorem dX12_explain_14 : decode cX12_explain 14 = .ok (.ifCond .ne 9, 3) := by decide +kernel
theorem dX12_explain_17 : decode cX12_explain 17 = .ok (.aload_n 0, 1) := by decide +kernel
theorem dX12_explain_18 : decode cX12_explain 18 = .ok (.iconst 1, 1) := by decide +kernel
theorem dX12_explain_19 : decode cX12_explain 19 = .ok (.invokevirtual 95, 3) := by decide +kernel
theorem dX12_explain_22 : decode cX12_explain 22 = .ok (.ireturn, 1) := by decide +kernel
theorem dX12_explain_23 : decode cX12_explain 23 = .ok (.iconst 0, 1) := by decide +kernel
theorem dX12_explain_24 : decode cX12_explain 24 = .ok (.istore_n 2, 1) := by decide +kernel
theorem dX12_explain_25 : decode cX12_explain 25 = .ok (.iconst 0, 1) := by decide +kernel
theorem dX12_explain_26 : decode cX12_explain 26 = .ok (.istore_n 3, 1) := by decide +kernel
theorem dX12_explain_27 : decode cX12_explain 27 = .ok (.iconst 0, 1) := by decide +kernel
theorem dX12_explain_28 : decode cX12_explain 28 = .ok (.istore 4, 2) := by decide +kernel
theorem dX12_explain_30 : decode cX12_explain 30 = .ok (.iload 4, 2) := by decide +kernel
theorem dX12_explain_32 : decode cX12_explain 32 = .ok (.aload_n 0, 1) := by decide +kernel
theorem dX12_explain_33 : decode cX12_explain 33 = .ok (.getfield 9, 3) := by decide +kernel
theorem dX12_explain_36 : decode cX12_explain 36 = .ok (.iconst 0, 1) := by decide +kernel
theorem dX12_explain_37 : decode cX12_explain 37 = .ok (.iaload, 1) := by decide +kernel
theorem dX12_explain_38 : decode cX12_explain 38 = .ok (.if_icmp .ge 58, 3) := by decide +kernel
theorem dX12_explain_41 : decode cX12_explain 41 = .ok (.aload_n 0, 1) := by decide +kernel
theorem dX12_explain_42 : decode cX12_explain 42 = .ok (.getfield 53, 3) := by decide +kernel
theorem dX12_explain_45 : decode cX12_explain 45 = .ok (.iload 4, 2) := by decide +kernel
theorem dX12_explain_47 : decode cX12_explain 47 = .ok (.aload_n 0, 1) := by decide +kernel
theorem dX12_explain_48 : decode cX12_explain 48 = .ok (.iload 4, 2) := by decide +kernel
theorem dX12_explain_50 : decode cX12_explain 50 = .ok (.invokevirtual 329, 3) := by decide +kernel
theorem dX12_explain_53 : decode cX12_explain 53 = .ok (.aload_n 0, 1) := by decide +kernel
theorem dX12_explain_54 : decode cX12_explain 54 = .ok (.iload 4, 2) := by decide +kernel
theorem dX12_explain_56 : decode cX12_explain 56 = .ok (.invokevirtual 326, 3) := by decide +kernel
theorem dX12_explain_59 : decode cX12_explain 59 = .ok (.isub, 1) := by decide +kernel
theorem dX12_explain_60 : decode cX12_explain 60 = .ok (.iastore, 1) := by decide +kernel
theorem dX12_explain_61 : decode cX12_explain 61 = .ok (.iload_n 2, 1) := by decide +kernel
theorem dX12_explain_62 : decode cX12_explain 62 = .ok (.iconst 0, 1) := by decide +kernel
theorem dX12_explain_63 : decode cX12_explain 63 = .ok (.aload_n 0, 1) := by decide +kernel
theorem dX12_explain_64 : decode cX12_explain 64 = .ok (.getfield 53, 3) := by decide +kernel
theorem dX12_explain_67 : decode cX12_explain 67 = .ok (.iload 4, 2) := by decide +kernel
theorem dX12_explain_69 : decode cX12_explain 69 = .ok (.iaload, 1) := by decide +kernel
theorem dX12_explain_70 : decode cX12_explain 70 = .ok (.invokestatic 123, 3) := by decide +kernel
theorem dX12_explain_73 : decode cX12_explain 73 = .ok (.iadd, 1) := by decide +kernel
theorem dX12_explain_74 : decode cX12_explain 74 = .ok (.istore_n 2, 1) := by decide +kernel
theorem dX12_explain_75 : decode cX12_explain 75 = .ok (.iload_n 3, 1) := by decide +kernel
theorem dX12_explain_76 : decode cX12_explain 76 = .ok (.iconst 0, 1) := by decide +kernel
theorem dX12_explain_77 : decode cX12_explain 77 = .ok (.aload_n 0, 1) := by decide +kernel
theorem dX12_explain_78 : decode cX12_explain 78 = .ok (.getfield 53, 3) := by decide +kernel
theorem dX12_explain_81 : decode cX12_explain 81 = .ok (.iload 4, 2) := by decide +kernel
theorem dX12_explain_83 : decode cX12_explain 83 = .ok (.iaload, 1) := by decide +kernel
theorem dX12_explain_84 : decode cX12_explain 84 = .ok (.ineg, 1) := by decide +kernel
theorem dX12_explain_85 : decode cX12_explain 85 = .ok (.invokestatic 123, 3) := by decide +kernel
theorem dX12_explain_88 : decode cX12_explain 88 = .ok (.iadd, 1) := by decide +kernel
theorem dX12_explain_89 : decode cX12_explain 89 = .ok (.istore_n 3, 1) := by decide +kernel
theorem dX12_explain_90 : decode cX12_explain 90 = .ok (.iinc 4 1, 3) := by decide +kernel
theorem dX12_explain_93 : decode cX12_explain 93 = .ok (.goto (-63), 3) := by decide +kernel
theorem dX12_explain_96 : decode cX12_explain 96 = .ok (.aload_n 0, 1) := by decide +kernel
theorem dX12_explain_97 : decode cX12_explain 97 = .ok (.invokevirtual 332, 3) := by decide +kernel
theorem dX12_explain_100 : decode cX12_explain 100 = .ok (.istore 4, 2) := by decide +kernel
theorem dX12_explain_102 : decode cX12_explain 102 = .ok (.aload_n 0, 1) := by decide +kernel
theorem dX12_explain_103 : decode cX12_explain 103 = .ok (.getfield 9, 3) := by decide +kernel
theorem dX12_explain_106 : decode cX12_explain 106 = .ok (.bipush 12, 2) := by decide +kernel
theorem dX12_explain_108 : decode cX12_explain 108 = .ok (.iaload, 1) := by decide +kernel
theorem dX12_explain_109 : decode cX12_explain 109 = .ok (.aload_n 0, 1) := by decide +kernel
theorem dX12_explain_110 : decode cX12_explain 110 = .ok (.getfield 9, 3) := by decide +kernel
theorem dX12_explain_113 : decode cX12_explain 113 = .ok (.bipush 13, 2) := by decide +kernel
theorem dX12_explain_115 : decode cX12_explain 115 = .ok (.iaload, 1) := by decide +kernel
theorem dX12_explain_116 : decode cX12_explain 116 = .ok (.invokestatic 228, 3) := by decide +kernel
theorem dX12_explain_119 : decode cX12_explain 119 = .ok (.istore 5, 2) := by decide +kernel
theorem dX12_explain_121 : decode cX12_explain 121 = .ok (.aload_n 0, 1) := by decide +kernel
theorem dX12_explain_122 : decode cX12_explain 122 = .ok (.getfield 9, 3) := by decide +kernel
theorem dX12_explain_125 : decode cX12_explain 125 = .ok (.bipush 11, 2) := by decide +kernel
theorem dX12_explain_127 : decode cX12_explain 127 = .ok (.iaload, 1) := by decide +kernel
theorem dX12_explain_128 : decode cX12_explain 128 = .ok (.iload 5, 2) := by decide +kernel
theorem dX12_explain_130 : decode cX12_explain 130 = .ok (.iadd, 1) := by decide +kernel
theorem dX12_explain_131 : decode cX12_explain 131 = .ok (.aload_n 0, 1) := by decide +kernel
theorem dX12_explain_132 : decode cX12_explain 132 = .ok (.getfield 9, 3) := by decide +kernel
theorem dX12_explain_135 : decode cX12_explain 135 = .ok (.bipush 14, 2) := by decide +kernel
theorem dX12_explain_137 : decode cX12_explain 137 = .ok (.iaload, 1) := by decide +kernel
theorem dX12_explain_138 : decode cX12_explain 138 = .ok (.isub, 1) := by decide +kernel
theorem dX12_explain_139 : decode cX12_explain 139 = .ok (.istore 6, 2) := by decide +kernel
theorem dX12_explain_141 : decode cX12_explain 141 = .ok (.iload_n 2, 1) := by decide +kernel
theorem dX12_explain_142 : decode cX12_explain 142 = .ok (.aload_n 0, 1) := by decide +kernel
theorem dX12_explain_143 : decode cX12_explain 143 = .ok (.getfield 9, 3) := by decide +kernel
theorem dX12_explain_146 : decode cX12_explain 146 = .ok (.bipush 11, 2) := by decide +kernel
theorem dX12_explain_148 : decode cX12_explain 148 = .ok (.iaload, 1) := by decide +kernel
theorem dX12_explain_149 : decode cX12_explain 149 = .ok (.imul, 1) := by decide +kernel
theorem dX12_explain_150 : decode cX12_explain 150 = .ok (.iload_n 3, 1) := by decide +kernel
theorem dX12_explain_151 : decode cX12_explain 151 = .ok (.iload 5, 2) := by decide +kernel
theorem dX12_explain_153 : decode cX12_explain 153 = .ok (.imul, 1) := by decide +kernel
theorem dX12_explain_154 : decode cX12_explain 154 = .ok (.iadd, 1) := by decide +kernel
theorem dX12_explain_155 : decode cX12_explain 155 = .ok (.istore 7, 2) := by decide +kernel
theorem dX12_explain_157 : decode cX12_explain 157 = .ok (.iload_n 1, 1) := by decide +kernel
theorem dX12_explain_158 : decode cX12_explain 158 = .ok (.ifCond .ne 18, 3) := by decide +kernel
theorem dX12_explain_161 : decode cX12_explain 161 = .ok (.iload 7, 2) := by decide +kernel
theorem dX12_explain_163 : decode cX12_explain 163 = .ok (.iconst 0, 1) := by decide +kernel
theorem dX12_explain_164 : decode cX12_explain 164 = .ok (.iload 6, 2) := by decide +kernel
theorem dX12_explain_166 : decode cX12_explain 166 = .ok (.invokestatic 123, 3) := by decide +kernel
theorem dX12_explain_169 : decode cX12_explain 169 = .ok (.iload 4, 2) := by decide +kernel
theorem dX12_explain_171 : decode cX12_explain 171 = .ok (.imul, 1) := by decide +kernel
theorem dX12_explain_172 : decode cX12_explain 172 = .ok (.isub, 1) := by decide +kernel
theorem dX12_explain_173 : decode cX12_explain 173 = .ok (.goto 33, 3) := by decide +kernel
theorem dX12_explain_176 : decode cX12_explain 176 = .ok (.iload_n 1, 1) := by decide +kernel
theorem dX12_explain_177 : decode cX12_explain 177 = .ok (.iconst 1, 1) := by decide +kernel
theorem dX12_explain_178 : decode cX12_explain 178 = .ok (.if_icmp .ne 17, 3) := by decide +kernel
theorem dX12_explain_181 : decode cX12_explain 181 = .ok (.iload 6, 2) := by decide +kernel
theorem dX12_explain_183 : decode cX12_explain 183 = .ok (.ifCond .le 8, 3) := by decide +kernel
theorem dX12_explain_186 : decode cX12_explain 186 = .ok (.iload 4, 2) := by decide +kernel
theorem dX12_explain_188 : decode cX12_explain 188 = .ok (.goto 18, 3) := by decide +kernel
theorem dX12_explain_191 : decode cX12_explain 191 = .ok (.iconst 0, 1) := by decide +kernel
theorem dX12_explain_192 : decode cX12_explain 192 = .ok (.goto 14, 3) := by decide +kernel
theorem dX12_explain_195 : decode cX12_explain 195 = .ok (.iload 6, 2) := by decide +kernel
theorem dX12_explain_197 : decode cX12_explain 197 = .ok (.ifCond .lt 8, 3) := by decide +kernel
theorem dX12_explain_200 : decode cX12_explain 200 = .ok (.iload 4, 2) := by decide +kernel
theorem dX12_explain_202 : decode cX12_explain 202 = .ok (.goto 4, 3) := by decide +kernel
theorem dX12_explain_205 : decode cX12_explain 205 = .ok (.iconst 0, 1) := by decide +kernel
theorem dX12_explain_206 : decode cX12_explain 206 = .ok (.ireturn, 1) := by decide +kernel
theorem dX12_buyer_0 : decode cX12_buyer 0 = .ok (.aload_n 0, 1) := by decide +kernel
theorem dX12_buyer_1 : decode cX12_buyer 1 = .ok (.iconst 0, 1) := by decide +kernel
theorem dX12_buyer_2 : decode cX12_buyer 2 = .ok (.putfield 80, 3) := by decide +kernel
theorem dX12_buyer_5 : decode cX12_buyer 5 = .ok (.iload_n 3, 1) := by decide +kernel
theorem dX12_buyer_6 : decode cX12_buyer 6 = .ok (.iconst (-1), 1) := by decide +kernel
theorem dX12_buyer_7 : decode cX12_buyer 7 = .ok (.if_icmp .ne 7, 3) := by decide +kernel
theorem dX12_buyer_10 : decode cX12_buyer 10 = .ok (.iconst (-1), 1) := by decide +kernel
theorem dX12_buyer_11 : decode cX12_buyer 11 = .ok (.goto 5, 3) := by decide +kernel
theorem dX12_buyer_14 : decode cX12_buyer 14 = .ok (.iload 4, 2) := by decide +kernel
theorem dX12_buyer_16 : decode cX12_buyer 16 = .ok (.istore 7, 2) := by decide +kernel
theorem dX12_buyer_18 : decode cX12_buyer 18 = .ok (.iload 7, 2) := by decide +kernel
theorem dX12_buyer_20 : decode cX12_buyer 20 = .ok (.iconst (-1), 1) := by decide +kernel
theorem dX12_buyer_21 : decode cX12_buyer 21 = .ok (.if_icmp .ne 7, 3) := by decide +kernel
theorem dX12_buyer_24 : decode cX12_buyer 24 = .ok (.iconst (-1), 1) := by decide +kernel
theorem dX12_buyer_25 : decode cX12_buyer 25 = .ok (.goto 5, 3) := by decide +kernel
theorem dX12_buyer_28 : decode cX12_buyer 28 = .ok (.iload 5, 2) := by decide +kernel
theorem dX12_buyer_30 : decode cX12_buyer 30 = .ok (.istore 8, 2) := by decide +kernel
theorem dX12_buyer_32 : decode cX12_buyer 32 = .ok (.aload_n 0, 1) := by decide +kernel
theorem dX12_buyer_33 : decode cX12_buyer 33 = .ok (.iload_n 1, 1) := by decide +kernel
theorem dX12_buyer_34 : decode cX12_buyer 34 = .ok (.invokevirtual 290, 3) := by decide +kernel
theorem dX12_buyer_37 : decode cX12_buyer 37 = .ok (.ifCond .eq 54, 3) := by decide +kernel
theorem dX12_buyer_40 : decode cX12_buyer 40 = .ok (.aload_n 0, 1) := by decide +kernel
theorem dX12_buyer_41 : decode cX12_buyer 41 = .ok (.iload_n 2, 1) := by decide +kernel
theorem dX12_buyer_42 : decode cX12_buyer 42 = .ok (.invokevirtual 99, 3) := by decide +kernel
theorem dX12_buyer_45 : decode cX12_buyer 45 = .ok (.ifCond .eq 46, 3) := by decide +kernel
theorem dX12_buyer_48 : decode cX12_buyer 48 = .ok (.iload_n 3, 1) := by decide +kernel
theorem dX12_buyer_49 : decode cX12_buyer 49 = .ok (.iconst (-1), 1) := by decide +kernel
theorem dX12_buyer_50 : decode cX12_buyer 50 = .ok (.if_icmp .eq 11, 3) := by decide +kernel
theorem dX12_buyer_53 : decode cX12_buyer 53 = .ok (.aload_n 0, 1) := by decide +kernel
theorem dX12_buyer_54 : decode cX12_buyer 54 = .ok (.iload_n 3, 1) := by decide +kernel
theorem dX12_buyer_55 : decode cX12_buyer 55 = .ok (.invokevirtual 99, 3) := by decide +kernel
theorem dX12_buyer_58 : decode cX12_buyer 58 = .ok (.ifCond .eq 33, 3) := by decide +kernel
theorem dX12_buyer_61 : decode cX12_buyer 61 = .ok (.iload 7, 2) := by decide +kernel
theorem dX12_buyer_63 : decode cX12_buyer 63 = .ok (.iconst (-1), 1) := by decide +kernel
theorem dX12_buyer_64 : decode cX12_buyer 64 = .ok (.if_icmp .eq 12, 3) := by decide +kernel
theorem dX12_buyer_67 : decode cX12_buyer 67 = .ok (.aload_n 0, 1) := by decide +kernel
theorem dX12_buyer_68 : decode cX12_buyer 68 = .ok (.iload 7, 2) := by decide +kernel
theorem dX12_buyer_70 : decode cX12_buyer 70 = .ok (.invokevirtual 99, 3) := by decide +kernel
theorem dX12_buyer_73 : decode cX12_buyer 73 = .ok (.ifCond .eq 18, 3) := by decide +kernel
theorem dX12_buyer_76 : decode cX12_buyer 76 = .ok (.iload 8, 2) := by decide +kernel
theorem dX12_buyer_78 : decode cX12_buyer 78 = .ok (.iconst (-1), 1) := by decide +kernel
theorem dX12_buyer_79 : decode cX12_buyer 79 = .ok (.if_icmp .eq 18, 3) := by decide +kernel
theorem dX12_buyer_82 : decode cX12_buyer 82 = .ok (.aload_n 0, 1) := by decide +kernel
theorem dX12_buyer_83 : decode cX12_buyer 83 = .ok (.iload 8, 2) := by decide +kernel
theorem dX12_buyer_85 : decode cX12_buyer 85 = .ok (.invokevirtual 99, 3) := by decide +kernel
theorem dX12_buyer_88 : decode cX12_buyer 88 = .ok (.ifCond .ne 9, 3) := by decide +kernel
theorem dX12_buyer_91 : decode cX12_buyer 91 = .ok (.aload_n 0, 1) := by decide +kernel
theorem dX12_buyer_92 : decode cX12_buyer 92 = .ok (.iconst 1, 1) := by decide +kernel
theorem dX12_buyer_93 : decode cX12_buyer 93 = .ok (.invokevirtual 95, 3) := by decide +kernel
theorem dX12_buyer_96 : decode cX12_buyer 96 = .ok (.ireturn, 1) := by decide +kernel
theorem dX12_buyer_97 : decode cX12_buyer 97 = .ok (.iload 6, 2) := by decide +kernel
theorem dX12_buyer_99 : decode cX12_buyer 99 = .ok (.i2l, 1) := by decide +kernel
theorem dX12_buyer_100 : decode cX12_buyer 100 = .ok (.lconst 1, 1) := by decide +kernel
theorem dX12_buyer_101 : decode cX12_buyer 101 = .ok (.ldc2_w 107, 3) := by decide +kernel
theorem dX12_buyer_104 : decode cX12_buyer 104 = .ok (.invokestatic 83, 3) := by decide +kernel
theorem dX12_buyer_107 : decode cX12_buyer 107 = .ok (.ifCond .ne 9, 3) := by decide +kernel
theorem dX12_buyer_110 : decode cX12_buyer 110 = .ok (.aload_n 0, 1) := by decide +kernel
theorem dX12_buyer_111 : decode cX12_buyer 111 = .ok (.iconst 2, 1) := by decide +kernel
theorem dX12_buyer_112 : decode cX12_buyer 112 = .ok (.invokevirtual 95, 3) := by decide +kernel
theorem dX12_buyer_115 : decode cX12_buyer 115 = .ok (.ireturn, 1) := by decide +kernel
theorem dX12_buyer_116 : decode cX12_buyer 116 = .ok (.aload_n 0, 1) := by decide +kernel
theorem dX12_buyer_117 : decode cX12_buyer 117 = .ok (.getfield 9, 3) := by decide +kernel
theorem dX12_buyer_120 : decode cX12_buyer 120 = .ok (.iconst 4, 1) := by decide +kernel
theorem dX12_buyer_121 : decode cX12_buyer 121 = .ok (.iaload, 1) := by decide +kernel
theorem dX12_buyer_122 : decode cX12_buyer 122 = .ok (.iconst 5, 1) := by decide +kernel
theorem dX12_buyer_123 : decode cX12_buyer 123 = .ok (.if_icmp .ne 5, 3) := by decide +kernel
theorem dX12_buyer_126 : decode cX12_buyer 126 = .ok (.iconst (-1), 1) := by decide +kernel
theorem dX12_buyer_127 : decode cX12_buyer 127 = .ok (.ireturn, 1) := by decide +kernel
theorem dX12_buyer_128 : decode cX12_buyer 128 = .ok (.sipush 577, 3) := by decide +kernel
theorem dX12_buyer_131 : decode cX12_buyer 131 = .ok (.bipush 6, 2) := by decide +kernel
theorem dX12_buyer_133 : decode cX12_buyer 133 = .ok (.aload_n 0, 1) := by decide +kernel
theorem dX12_buyer_134 : decode cX12_buyer 134 = .ok (.getfield 9, 3) := by decide +kernel
theorem dX12_buyer_137 : decode cX12_buyer 137 = .ok (.iconst 4, 1) := by decide +kernel
theorem dX12_buyer_138 : decode cX12_buyer 138 = .ok (.iaload, 1) := by decide +kernel
theorem dX12_buyer_139 : decode cX12_buyer 139 = .ok (.imul, 1) := by decide +kernel
theorem dX12_buyer_140 : decode cX12_buyer 140 = .ok (.iadd, 1) := by decide +kernel
theorem dX12_buyer_141 : decode cX12_buyer 141 = .ok (.istore 9, 2) := by decide +kernel
theorem dX12_buyer_143 : decode cX12_buyer 143 = .ok (.aload_n 0, 1) := by decide +kernel
theorem dX12_buyer_144 : decode cX12_buyer 144 = .ok (.getfield 9, 3) := by decide +kernel
theorem dX12_buyer_147 : decode cX12_buyer 147 = .ok (.iload 9, 2) := by decide +kernel
theorem dX12_buyer_149 : decode cX12_buyer 149 = .ok (.iload_n 1, 1) := by decide +kernel
theorem dX12_buyer_150 : decode cX12_buyer 150 = .ok (.iastore, 1) := by decide +kernel
theorem dX12_buyer_151 : decode cX12_buyer 151 = .ok (.aload_n 0, 1) := by decide +kernel
theorem dX12_buyer_152 : decode cX12_buyer 152 = .ok (.getfield 9, 3) := by decide +kernel
theorem dX12_buyer_155 : decode cX12_buyer 155 = .ok (.iload 9, 2) := by decide +kernel
theorem dX12_buyer_157 : decode cX12_buyer 157 = .ok (.iconst 1, 1) := by decide +kernel
theorem dX12_buyer_158 : decode cX12_buyer 158 = .ok (.iadd, 1) := by decide +kernel
theorem dX12_buyer_159 : decode cX12_buyer 159 = .ok (.iload_n 2, 1) := by decide +kernel
theorem dX12_buyer_160 : decode cX12_buyer 160 = .ok (.iastore, 1) := by decide +kernel
theorem dX12_buyer_161 : decode cX12_buyer 161 = .ok (.aload_n 0, 1) := by decide +kernel
theorem dX12_buyer_162 : decode cX12_buyer 162 = .ok (.getfield 9, 3) := by decide +kernel
theorem dX12_buyer_165 : decode cX12_buyer 165 = .ok (.iload 9, 2) := by decide +kernel
theorem dX12_buyer_167 : decode cX12_buyer 167 = .ok (.iconst 2, 1) := by decide +kernel
theorem dX12_buyer_168 : decode cX12_buyer 168 = .ok (.iadd, 1) := by decide +kernel
theorem dX12_buyer_169 : decode cX12_buyer 169 = .ok (.iload_n 3, 1) := by decide +kernel
theorem dX12_buyer_170 : decode cX12_buyer 170 = .ok (.iastore, 1) := by decide +kernel
theorem dX12_buyer_171 : decode cX12_buyer 171 = .ok (.aload_n 0, 1) := by decide +kernel
theorem dX12_buyer_172 : decode cX12_buyer 172 = .ok (.getfield 9, 3) := by decide +kernel
theorem dX12_buyer_175 : decode cX12_buyer 175 = .ok (.iload 9, 2) := by decide +kernel
theorem dX12_buyer_177 : decode cX12_buyer 177 = .ok (.iconst 3, 1) := by decide +kernel
theorem dX12_buyer_178 : decode cX12_buyer 178 = .ok (.iadd, 1) := by decide +kernel
theorem dX12_buyer_179 : decode cX12_buyer 179 = .ok (.iload 7, 2) := by decide +kernel
theorem dX12_buyer_181 : decode cX12_buyer 181 = .ok (.iastore, 1) := by decide +kernel
theorem dX12_buyer_182 : decode cX12_buyer 182 = .ok (.aload_n 0, 1) := by decide +kernel
theorem dX12_buyer_183 : decode cX12_buyer 183 = .ok (.getfield 9, 3) := by decide +kernel
theorem dX12_buyer_186 : decode cX12_buyer 186 = .ok (.iload 9, 2) := by decide +kernel
theorem dX12_buyer_188 : decode cX12_buyer 188 = .ok (.iconst 4, 1) := by decide +kernel
theorem dX12_buyer_189 : decode cX12_buyer 189 = .ok (.iadd, 1) := by decide +kernel
theorem dX12_buyer_190 : decode cX12_buyer 190 = .ok (.iload 8, 2) := by decide +kernel
theorem dX12_buyer_192 : decode cX12_buyer 192 = .ok (.iastore, 1) := by decide +kernel
theorem dX12_buyer_193 : decode cX12_buyer 193 = .ok (.aload_n 0, 1) := by decide +kernel
theorem dX12_buyer_194 : decode cX12_buyer 194 = .ok (.getfield 9, 3) := by decide +kernel
theorem dX12_buyer_197 : decode cX12_buyer 197 = .ok (.iload 9, 2) := by decide +kernel
theorem dX12_buyer_199 : decode cX12_buyer 199 = .ok (.iconst 5, 1) := by decide +kernel
theorem dX12_buyer_200 : decode cX12_buyer 200 = .ok (.iadd, 1) := by decide +kernel
theorem dX12_buyer_201 : decode cX12_buyer 201 = .ok (.iload 6, 2) := by decide +kernel
theorem dX12_buyer_203 : decode cX12_buyer 203 = .ok (.iastore, 1) := by decide +kernel
theorem dX12_buyer_204 : decode cX12_buyer 204 = .ok (.aload_n 0, 1) := by decide +kernel
theorem dX12_buyer_205 : decode cX12_buyer 205 = .ok (.getfield 9, 3) := by decide +kernel
theorem dX12_buyer_208 : decode cX12_buyer 208 = .ok (.iconst 4, 1) := by decide +kernel
theorem dX12_buyer_209 : decode cX12_buyer 209 = .ok (.dup2, 1) := by decide +kernel
theorem dX12_buyer_210 : decode cX12_buyer 210 = .ok (.iaload, 1) := by decide +kernel
theorem dX12_buyer_211 : decode cX12_buyer 211 = .ok (.iconst 1, 1) := by decide +kernel
theorem dX12_buyer_212 : decode cX12_buyer 212 = .ok (.iadd, 1) := by decide +kernel
theorem dX12_buyer_213 : decode cX12_buyer 213 = .ok (.iastore, 1) := by decide +kernel
theorem dX12_buyer_214 : decode cX12_buyer 214 = .ok (.aload_n 0, 1) := by decide +kernel
theorem dX12_buyer_215 : decode cX12_buyer 215 = .ok (.getfield 9, 3) := by decide +kernel
theorem dX12_buyer_218 : decode cX12_buyer 218 = .ok (.iconst 4, 1) := by decide +kernel
theorem dX12_buyer_219 : decode cX12_buyer 219 = .ok (.iaload, 1) := by decide +kernel
theorem dX12_buyer_220 : decode cX12_buyer 220 = .ok (.iconst 1, 1) := by decide +kernel
theorem dX12_buyer_221 : decode cX12_buyer 221 = .ok (.isub, 1) := by decide +kernel
theorem dX12_buyer_222 : decode cX12_buyer 222 = .ok (.ireturn, 1) := by decide +kernel
theorem dX12_served_0 : decode cX12_served 0 = .ok (.sipush 577, 3) := by decide +kernel
theorem dX12_served_3 : decode cX12_served 3 = .ok (.bipush 6, 2) := by decide +kernel
theorem dX12_served_5 : decode cX12_served 5 = .ok (.iload_n 1, 1) := by decide +kernel
theorem dX12_served_6 : decode cX12_served 6 = .ok (.imul, 1) := by decide +kernel
theorem dX12_served_7 : decode cX12_served 7 = .ok (.iadd, 1) := by decide +kernel
theorem dX12_served_8 : decode cX12_served 8 = .ok (.istore 4, 2) := by decide +kernel
theorem dX12_served_10 : decode cX12_served 10 = .ok (.iconst 0, 1) := by decide +kernel
theorem dX12_served_11 : decode cX12_served 11 = .ok (.istore 5, 2) := by decide +kernel
theorem dX12_served_13 : decode cX12_served 13 = .ok (.iconst 1, 1) := by decide +kernel
theorem dX12_served_14 : decode cX12_served 14 = .ok (.istore 6, 2) := by decide +kernel
theorem dX12_served_16 : decode cX12_served 16 = .ok (.iload 6, 2) := by decide +kernel
theorem dX12_served_18 : decode cX12_served 18 = .ok (.iconst 4, 1) := by decide +kernel
theorem dX12_served_19 : decode cX12_served 19 = .ok (.if_icmp .gt 64, 3) := by decide +kernel
theorem dX12_served_22 : decode cX12_served 22 = .ok (.aload_n 0, 1) := by decide +kernel
theorem dX12_served_23 : decode cX12_served 23 = .ok (.getfield 9, 3) := by decide +kernel
theorem dX12_served_26 : decode cX12_served 26 = .ok (.iload 4, 2) := by decide +kernel
theorem dX12_served_28 : decode cX12_served 28 = .ok (.iload 6, 2) := by decide +kernel
theorem dX12_served_30 : decode cX12_served 30 = .ok (.iadd, 1) := by decide +kernel
theorem dX12_served_31 : decode cX12_served 31 = .ok (.iaload, 1) := by decide +kernel
theorem dX12_served_32 : decode cX12_served 32 = .ok (.iconst (-1), 1) := by decide +kernel
theorem dX12_served_33 : decode cX12_served 33 = .ok (.if_icmp .ne 6, 3) := by decide +kernel
theorem dX12_served_36 : decode cX12_served 36 = .ok (.goto 41, 3) := by decide +kernel
theorem dX12_served_39 : decode cX12_served 39 = .ok (.aload_n 0, 1) := by decide +kernel
theorem dX12_served_40 : decode cX12_served 40 = .ok (.aload_n 0, 1) := by decide +kernel
theorem dX12_served_41 : decode cX12_served 41 = .ok (.getfield 9, 3) := by decide +kernel
theorem dX12_served_44 : decode cX12_served 44 = .ok (.iload 4, 2) := by decide +kernel
theorem dX12_served_46 : decode cX12_served 46 = .ok (.iload 6, 2) := by decide +kernel
theorem dX12_served_48 : decode cX12_served 48 = .ok (.iadd, 1) := by decide +kernel
theorem dX12_served_49 : decode cX12_served 49 = .ok (.iaload, 1) := by decide +kernel
theorem dX12_served_50 : decode cX12_served 50 = .ok (.invokevirtual 120, 3) := by decide +kernel
theorem dX12_served_53 : decode cX12_served 53 = .ok (.ifCond .ne 5, 3) := by decide +kernel
theorem dX12_served_56 : decode cX12_served 56 = .ok (.iconst 0, 1) := by decide +kernel
theorem dX12_served_57 : decode cX12_served 57 = .ok (.ireturn, 1) := by decide +kernel
theorem dX12_served_58 : decode cX12_served 58 = .ok (.iload 5, 2) := by decide +kernel
theorem dX12_served_60 : decode cX12_served 60 = .ok (.aload_n 0, 1) := by decide +kernel
theorem dX12_served_61 : decode cX12_served 61 = .ok (.aload_n 0, 1) := by decide +kernel
theorem dX12_served_62 : decode cX12_served 62 = .ok (.getfield 9, 3) := by decide +kernel
theorem dX12_served_65 : decode cX12_served 65 = .ok (.iload 4, 2) := by decide +kernel
theorem dX12_served_67 : decode cX12_served 67 = .ok (.iload 6, 2) := by decide +kernel
theorem dX12_served_69 : decode cX12_served 69 = .ok (.iadd, 1) := by decide +kernel
theorem dX12_served_70 : decode cX12_served 70 = .ok (.iaload, 1) := by decide +kernel
theorem dX12_served_71 : decode cX12_served 71 = .ok (.invokevirtual 264, 3) := by decide +kernel
theorem dX12_served_74 : decode cX12_served 74 = .ok (.iadd, 1) := by decide +kernel
theorem dX12_served_75 : decode cX12_served 75 = .ok (.istore 5, 2) := by decide +kernel
theorem dX12_served_77 : decode cX12_served 77 = .ok (.iinc 6 1, 3) := by decide +kernel
theorem dX12_served_80 : decode cX12_served 80 = .ok (.goto (-64), 3) := by decide +kernel
theorem dX12_served_83 : decode cX12_served 83 = .ok (.iload 5, 2) := by decide +kernel
theorem dX12_served_85 : decode cX12_served 85 = .ok (.aload_n 0, 1) := by decide +kernel
theorem dX12_served_86 : decode cX12_served 86 = .ok (.getfield 9, 3) := by decide +kernel
theorem dX12_served_89 : decode cX12_served 89 = .ok (.sipush 351, 3) := by decide +kernel
theorem dX12_served_92 : decode cX12_served 92 = .ok (.aload_n 0, 1) := by decide +kernel
theorem dX12_served_93 : decode cX12_served 93 = .ok (.getfield 9, 3) := by decide +kernel
theorem dX12_served_96 : decode cX12_served 96 = .ok (.iload 4, 2) := by decide +kernel
theorem dX12_served_98 : decode cX12_served 98 = .ok (.iaload, 1) := by decide +kernel
theorem dX12_served_99 : decode cX12_served 99 = .ok (.iadd, 1) := by decide +kernel
theorem dX12_served_100 : decode cX12_served 100 = .ok (.iaload, 1) := by decide +kernel
theorem dX12_served_101 : decode cX12_served 101 = .ok (.isub, 1) := by decide +kernel
theorem dX12_served_102 : decode cX12_served 102 = .ok (.istore 6, 2) := by decide +kernel
theorem dX12_served_104 : decode cX12_served 104 = .ok (.iconst 0, 1) := by decide +kernel
theorem dX12_served_105 : decode cX12_served 105 = .ok (.istore 7, 2) := by decide +kernel
theorem dX12_served_107 : decode cX12_served 107 = .ok (.iload 7, 2) := by decide +kernel
theorem dX12_served_109 : decode cX12_served 109 = .ok (.bipush 8, 2) := by decide +kernel
theorem dX12_served_111 : decode cX12_served 111 = .ok (.if_icmp .ge 28, 3) := by decide +kernel
theorem dX12_served_114 : decode cX12_served 114 = .ok (.aload_n 0, 1) := by decide +kernel
theorem dX12_served_115 : decode cX12_served 115 = .ok (.getfield 44, 3) := by decide +kernel
theorem dX12_served_118 : decode cX12_served 118 = .ok (.iload 7, 2) := by decide +kernel
theorem dX12_served_120 : decode cX12_served 120 = .ok (.aload_n 0, 1) := by decide +kernel
theorem dX12_served_121 : decode cX12_served 121 = .ok (.getfield 59, 3) := by decide +kernel
theorem dX12_served_124 : decode cX12_served 124 = .ok (.bipush 8, 2) := by decide +kernel
theorem dX12_served_126 : decode cX12_served 126 = .ok (.iload_n 2, 1) := by decide +kernel
theorem dX12_served_127 : decode cX12_served 127 = .ok (.imul, 1) := by decide +kernel
theorem dX12_served_128 : decode cX12_served 128 = .ok (.iload 7, 2) := by decide +kernel
theorem dX12_served_130 : decode cX12_served 130 = .ok (.iadd, 1) := by decide +kernel
theorem dX12_served_131 : decode cX12_served 131 = .ok (.iaload, 1) := by decide +kernel
theorem dX12_served_132 : decode cX12_served 132 = .ok (.iastore, 1) := by decide +kernel
theorem dX12_served_133 : decode cX12_served 133 = .ok (.iinc 7 1, 3) := by decide +kernel
theorem dX12_served_136 : decode cX12_served 136 = .ok (.goto (-29), 3) := by decide +kernel
theorem dX12_served_139 : decode cX12_served 139 = .ok (.iload 6, 2) := by decide +kernel
theorem dX12_served_141 : decode cX12_served 141 = .ok (.ifCond .lt 13, 3) := by decide +kernel
theorem dX12_served_144 : decode cX12_served 144 = .ok (.aload_n 0, 1) := by decide +kernel
theorem dX12_served_145 : decode cX12_served 145 = .ok (.iload 6, 2) := by decide +kernel
theorem dX12_served_147 : decode cX12_served 147 = .ok (.invokevirtual 321, 3) := by decide +kernel
theorem dX12_served_150 : decode cX12_served 150 = .ok (.iconst (-1), 1) := by decide +kernel
theorem dX12_served_151 : decode cX12_served 151 = .ok (.if_icmp .ne 5, 3) := by decide +kernel
theorem dX12_served_154 : decode cX12_served 154 = .ok (.iconst 0, 1) := by decide +kernel
theorem dX12_served_155 : decode cX12_served 155 = .ok (.ireturn, 1) := by decide +kernel
theorem dX12_served_156 : decode cX12_served 156 = .ok (.iconst 0, 1) := by decide +kernel
theorem dX12_served_157 : decode cX12_served 157 = .ok (.istore 7, 2) := by decide +kernel
theorem dX12_served_159 : decode cX12_served 159 = .ok (.iload 7, 2) := by decide +kernel
theorem dX12_served_161 : decode cX12_served 161 = .ok (.bipush 8, 2) := by decide +kernel
theorem dX12_served_163 : decode cX12_served 163 = .ok (.if_icmp .ge 36, 3) := by decide +kernel
theorem dX12_served_166 : decode cX12_served 166 = .ok (.aload_n 0, 1) := by decide +kernel
theorem dX12_served_167 : decode cX12_served 167 = .ok (.getfield 59, 3) := by decide +kernel
theorem dX12_served_170 : decode cX12_served 170 = .ok (.bipush 8, 2) := by decide +kernel
theorem dX12_served_172 : decode cX12_served 172 = .ok (.iload_n 3, 1) := by decide +kernel
theorem dX12_served_173 : decode cX12_served 173 = .ok (.imul, 1) := by decide +kernel
theorem dX12_served_174 : decode cX12_served 174 = .ok (.iload 7, 2) := by decide +kernel
theorem dX12_served_176 : decode cX12_served 176 = .ok (.iadd, 1) := by decide +kernel
theorem dX12_served_177 : decode cX12_served 177 = .ok (.aload_n 0, 1) := by decide +kernel
theorem dX12_served_178 : decode cX12_served 178 = .ok (.getfield 44, 3) := by decide +kernel
theorem dX12_served_181 : decode cX12_served 181 = .ok (.iload 7, 2) := by decide +kernel
theorem dX12_served_183 : decode cX12_served 183 = .ok (.iaload, 1) := by decide +kernel
theorem dX12_served_184 : decode cX12_served 184 = .ok (.aload_n 0, 1) := by decide +kernel
theorem dX12_served_185 : decode cX12_served 185 = .ok (.getfield 47, 3) := by decide +kernel
theorem dX12_served_188 : decode cX12_served 188 = .ok (.iload 7, 2) := by decide +kernel
theorem dX12_served_190 : decode cX12_served 190 = .ok (.iaload, 1) := by decide +kernel
theorem dX12_served_191 : decode cX12_served 191 = .ok (.isub, 1) := by decide +kernel
theorem dX12_served_192 : decode cX12_served 192 = .ok (.iastore, 1) := by decide +kernel
theorem dX12_served_193 : decode cX12_served 193 = .ok (.iinc 7 1, 3) := by decide +kernel
theorem dX12_served_196 : decode cX12_served 196 = .ok (.goto (-37), 3) := by decide +kernel
theorem dX12_served_199 : decode cX12_served 199 = .ok (.iconst 1, 1) := by decide +kernel
theorem dX12_served_200 : decode cX12_served 200 = .ok (.istore 7, 2) := by decide +kernel
theorem dX12_served_202 : decode cX12_served 202 = .ok (.iload 7, 2) := by decide +kernel
theorem dX12_served_204 : decode cX12_served 204 = .ok (.iconst 4, 1) := by decide +kernel
theorem dX12_served_205 : decode cX12_served 205 = .ok (.if_icmp .gt 70, 3) := by decide +kernel
theorem dX12_served_208 : decode cX12_served 208 = .ok (.aload_n 0, 1) := by decide +kernel
theorem dX12_served_209 : decode cX12_served 209 = .ok (.getfield 9, 3) := by decide +kernel
theorem dX12_served_212 : decode cX12_served 212 = .ok (.iload 4, 2) := by decide +kernel
theorem dX12_served_214 : decode cX12_served 214 = .ok (.iload 7, 2) := by decide +kernel
theorem dX12_served_216 : decode cX12_served 216 = .ok (.iadd, 1) := by decide +kernel
theorem dX12_served_217 : decode cX12_served 217 = .ok (.iaload, 1) := by decide +kernel
theorem dX12_served_218 : decode cX12_served 218 = .ok (.iconst (-1), 1) := by decide +kernel
theorem dX12_served_219 : decode cX12_served 219 = .ok (.if_icmp .eq 50, 3) := by decide +kernel
theorem dX12_served_222 : decode cX12_served 222 = .ok (.aload_n 0, 1) := by decide +kernel
theorem dX12_served_223 : decode cX12_served 223 = .ok (.getfield 59, 3) := by decide +kernel
theorem dX12_served_226 : decode cX12_served 226 = .ok (.bipush 8, 2) := by decide +kernel
theorem dX12_served_228 : decode cX12_served 228 = .ok (.iload_n 3, 1) := by decide +kernel
theorem dX12_served_229 : decode cX12_served 229 = .ok (.imul, 1) := by decide +kernel
theorem dX12_served_230 : decode cX12_served 230 = .ok (.aload_n 0, 1) := by decide +kernel
theorem dX12_served_231 : decode cX12_served 231 = .ok (.getfield 9, 3) := by decide +kernel
theorem dX12_served_234 : decode cX12_served 234 = .ok (.iload 4, 2) := by decide +kernel
theorem dX12_served_236 : decode cX12_served 236 = .ok (.iload 7, 2) := by decide +kernel
theorem dX12_served_238 : decode cX12_served 238 = .ok (.iadd, 1) := by decide +kernel
theorem dX12_served_239 : decode cX12_served 239 = .ok (.iaload, 1) := by decide +kernel
theorem dX12_served_240 : decode cX12_served 240 = .ok (.iadd, 1) := by decide +kernel
theorem dX12_served_241 : decode cX12_served 241 = .ok (.bipush 20, 2) := by decide +kernel
theorem dX12_served_243 : decode cX12_served 243 = .ok (.aload_n 0, 1) := by decide +kernel
theorem dX12_served_244 : decode cX12_served 244 = .ok (.getfield 59, 3) := by decide +kernel
theorem dX12_served_247 : decode cX12_served 247 = .ok (.bipush 8, 2) := by decide +kernel
theorem dX12_served_249 : decode cX12_served 249 = .ok (.iload_n 3, 1) := by decide +kernel
theorem dX12_served_250 : decode cX12_served 250 = .ok (.imul, 1) := by decide +kernel
theorem dX12_served_251 : decode cX12_served 251 = .ok (.aload_n 0, 1) := by decide +kernel
theorem dX12_served_252 : decode cX12_served 252 = .ok (.getfield 9, 3) := by decide +kernel
theorem dX12_served_255 : decode cX12_served 255 = .ok (.iload 4, 2) := by decide +kernel
theorem dX12_served_257 : decode cX12_served 257 = .ok (.iload 7, 2) := by decide +kernel
theorem dX12_served_259 : decode cX12_served 259 = .ok (.iadd, 1) := by decide +kernel
theorem dX12_served_260 : decode cX12_served 260 = .ok (.iaload, 1) := by decide +kernel
theorem dX12_served_261 : decode cX12_served 261 = .ok (.iadd, 1) := by decide +kernel
theorem dX12_served_262 : decode cX12_served 262 = .ok (.iaload, 1) := by decide +kernel
theorem dX12_served_263 : decode cX12_served 263 = .ok (.iconst 1, 1) := by decide +kernel
theorem dX12_served_264 : decode cX12_served 264 = .ok (.iadd, 1) := by decide +kernel
theorem dX12_served_265 : decode cX12_served 265 = .ok (.invokestatic 228, 3) := by decide +kernel
theorem dX12_served_268 : decode cX12_served 268 = .ok (.iastore, 1) := by decide +kernel
theorem dX12_served_269 : decode cX12_served 269 = .ok (.iinc 7 1, 3) := by decide +kernel
theorem dX12_served_272 : decode cX12_served 272 = .ok (.goto (-70), 3) := by decide +kernel
theorem dX12_served_275 : decode cX12_served 275 = .ok (.iconst 1, 1) := by decide +kernel
theorem dX12_served_276 : decode cX12_served 276 = .ok (.ireturn, 1) := by decide +kernel
theorem dX12_chances_0 : decode cX12_chances 0 = .ok (.lconst 0, 1) := by decide +kernel
theorem dX12_chances_1 : decode cX12_chances 1 = .ok (.lstore_n 1, 1) := by decide +kernel
theorem dX12_chances_2 : decode cX12_chances 2 = .ok (.iconst 0, 1) := by decide +kernel
theorem dX12_chances_3 : decode cX12_chances 3 = .ok (.istore_n 3, 1) := by decide +kernel
theorem dX12_chances_4 : decode cX12_chances 4 = .ok (.iload_n 3, 1) := by decide +kernel
theorem dX12_chances_5 : decode cX12_chances 5 = .ok (.aload_n 0, 1) := by decide +kernel
theorem dX12_chances_6 : decode cX12_chances 6 = .ok (.getfield 9, 3) := by decide +kernel
theorem dX12_chances_9 : decode cX12_chances 9 = .ok (.iconst 4, 1) := by decide +kernel
theorem dX12_chances_10 : decode cX12_chances 10 = .ok (.iaload, 1) := by decide +kernel
theorem dX12_chances_11 : decode cX12_chances 11 = .ok (.if_icmp .ge 28, 3) := by decide +kernel
theorem dX12_chances_14 : decode cX12_chances 14 = .ok (.lload_n 1, 1) := by decide +kernel
theorem dX12_chances_15 : decode cX12_chances 15 = .ok (.aload_n 0, 1) := by decide +kernel
theorem dX12_chances_16 : decode cX12_chances 16 = .ok (.getfield 9, 3) := by decide +kernel
theorem dX12_chances_19 : decode cX12_chances 19 = .ok (.sipush 577, 3) := by decide +kernel
theorem dX12_chances_22 : decode cX12_chances 22 = .ok (.bipush 6, 2) := by decide +kernel
theorem dX12_chances_24 : decode cX12_chances 24 = .ok (.iload_n 3, 1) := by decide +kernel
theorem dX12_chances_25 : decode cX12_chances 25 = .ok (.imul, 1) := by decide +kernel
theorem dX12_chances_26 : decode cX12_chances 26 = .ok (.iadd, 1) := by decide +kernel
theorem dX12_chances_27 : decode cX12_chances 27 = .ok (.iconst 5, 1) := by decide +kernel
theorem dX12_chances_28 : decode cX12_chances 28 = .ok (.iadd, 1) := by decide +kernel
theorem dX12_chances_29 : decode cX12_chances 29 = .ok (.iaload, 1) := by decide +kernel
theorem dX12_chances_30 : decode cX12_chances 30 = .ok (.i2l, 1) := by decide +kernel
theorem dX12_chances_31 : decode cX12_chances 31 = .ok (.ladd, 1) := by decide +kernel
theorem dX12_chances_32 : decode cX12_chances 32 = .ok (.lstore_n 1, 1) := by decide +kernel
theorem dX12_chances_33 : decode cX12_chances 33 = .ok (.iinc 3 1, 3) := by decide +kernel
theorem dX12_chances_36 : decode cX12_chances 36 = .ok (.goto (-32), 3) := by decide +kernel
theorem dX12_chances_39 : decode cX12_chances 39 = .ok (.lload_n 1, 1) := by decide +kernel
theorem dX12_chances_40 : decode cX12_chances 40 = .ok (.lreturn, 1) := by decide +kernel
theorem dX12_power_0 : decode cX12_power 0 = .ok (.lconst 1, 1) := by decide +kernel
theorem dX12_power_1 : decode cX12_power 1 = .ok (.lstore_n 2, 1) := by decide +kernel
theorem dX12_power_2 : decode cX12_power 2 = .ok (.iconst 0, 1) := by decide +kernel
theorem dX12_power_3 : decode cX12_power 3 = .ok (.istore 4, 2) := by decide +kernel
theorem dX12_power_5 : decode cX12_power 5 = .ok (.iload 4, 2) := by decide +kernel
theorem dX12_power_7 : decode cX12_power 7 = .ok (.iload_n 1, 1) := by decide +kernel
theorem dX12_power_8 : decode cX12_power 8 = .ok (.if_icmp .ge 16, 3) := by decide +kernel
theorem dX12_power_11 : decode cX12_power 11 = .ok (.lload_n 2, 1) := by decide +kernel
theorem dX12_power_12 : decode cX12_power 12 = .ok (.aload_n 0, 1) := by decide +kernel
theorem dX12_power_13 : decode cX12_power 13 = .ok (.invokevirtual 335, 3) := by decide +kernel
theorem dX12_power_16 : decode cX12_power 16 = .ok (.lmul, 1) := by decide +kernel
theorem dX12_power_17 : decode cX12_power 17 = .ok (.lstore_n 2, 1) := by decide +kernel
theorem dX12_power_18 : decode cX12_power 18 = .ok (.iinc 4 1, 3) := by decide +kernel
theorem dX12_power_21 : decode cX12_power 21 = .ok (.goto (-16), 3) := by decide +kernel
theorem dX12_power_24 : decode cX12_power 24 = .ok (.lload_n 2, 1) := by decide +kernel
theorem dX12_power_25 : decode cX12_power 25 = .ok (.lreturn, 1) := by decide +kernel
theorem dX12_mostOf_0 : decode cX12_mostOf 0 = .ok (.iload_n 1, 1) := by decide +kernel
theorem dX12_mostOf_1 : decode cX12_mostOf 1 = .ok (.ifCond .ne 5, 3) := by decide +kernel
theorem dX12_mostOf_4 : decode cX12_mostOf 4 = .ok (.lconst 0, 1) := by decide +kernel
theorem dX12_mostOf_5 : decode cX12_mostOf 5 = .ok (.lreturn, 1) := by decide +kernel
theorem dX12_mostOf_6 : decode cX12_mostOf 6 = .ok (.lconst 0, 1) := by decide +kernel
theorem dX12_mostOf_7 : decode cX12_mostOf 7 = .ok (.lstore_n 2, 1) := by decide +kernel
theorem dX12_mostOf_8 : decode cX12_mostOf 8 = .ok (.iconst 0, 1) := by decide +kernel
theorem dX12_mostOf_9 : decode cX12_mostOf 9 = .ok (.istore 4, 2) := by decide +kernel
theorem dX12_mostOf_11 : decode cX12_mostOf 11 = .ok (.iload 4, 2) := by decide +kernel
theorem dX12_mostOf_13 : decode cX12_mostOf 13 = .ok (.aload_n 0, 1) := by decide +kernel
theorem dX12_mostOf_14 : decode cX12_mostOf 14 = .ok (.getfield 9, 3) := by decide +kernel
theorem dX12_mostOf_17 : decode cX12_mostOf 17 = .ok (.iconst 4, 1) := by decide +kernel
theorem dX12_mostOf_18 : decode cX12_mostOf 18 = .ok (.iaload, 1) := by decide +kernel
theorem dX12_mostOf_19 : decode cX12_mostOf 19 = .ok (.if_icmp .ge 76, 3) := by decide +kernel
theorem dX12_mostOf_22 : decode cX12_mostOf 22 = .ok (.aload_n 0, 1) := by decide +kernel
theorem dX12_mostOf_23 : decode cX12_mostOf 23 = .ok (.iload 4, 2) := by decide +kernel
theorem dX12_mostOf_25 : decode cX12_mostOf 25 = .ok (.iload_n 1, 1) := by decide +kernel
theorem dX12_mostOf_26 : decode cX12_mostOf 26 = .ok (.iload_n 1, 1) := by decide +kernel
theorem dX12_mostOf_27 : decode cX12_mostOf 27 = .ok (.iconst 1, 1) := by decide +kernel
theorem dX12_mostOf_28 : decode cX12_mostOf 28 = .ok (.isub, 1) := by decide +kernel
theorem dX12_mostOf_29 : decode cX12_mostOf 29 = .ok (.invokevirtual 339, 3) := by decide +kernel
theorem dX12_mostOf_32 : decode cX12_mostOf 32 = .ok (.ifCond .eq 21, 3) := by decide +kernel
theorem dX12_mostOf_35 : decode cX12_mostOf 35 = .ok (.aload_n 0, 1) := by decide +kernel
theorem dX12_mostOf_36 : decode cX12_mostOf 36 = .ok (.iload_n 1, 1) := by decide +kernel
theorem dX12_mostOf_37 : decode cX12_mostOf 37 = .ok (.iconst 1, 1) := by decide +kernel
theorem dX12_mostOf_38 : decode cX12_mostOf 38 = .ok (.isub, 1) := by decide +kernel
theorem dX12_mostOf_39 : decode cX12_mostOf 39 = .ok (.invokevirtual 343, 3) := by decide +kernel
theorem dX12_mostOf_42 : decode cX12_mostOf 42 = .ok (.aload_n 0, 1) := by decide +kernel
theorem dX12_mostOf_43 : decode cX12_mostOf 43 = .ok (.iload_n 1, 1) := by decide +kernel
theorem dX12_mostOf_44 : decode cX12_mostOf 44 = .ok (.iconst 1, 1) := by decide +kernel
theorem dX12_mostOf_45 : decode cX12_mostOf 45 = .ok (.isub, 1) := by decide +kernel
theorem dX12_mostOf_46 : decode cX12_mostOf 46 = .ok (.invokevirtual 346, 3) := by decide +kernel
theorem dX12_mostOf_49 : decode cX12_mostOf 49 = .ok (.ladd, 1) := by decide +kernel
theorem dX12_mostOf_50 : decode cX12_mostOf 50 = .ok (.goto 6, 3) := by decide +kernel
theorem dX12_mostOf_53 : decode cX12_mostOf 53 = .ok (.ldc2_w 349, 3) := by decide +kernel
theorem dX12_mostOf_56 : decode cX12_mostOf 56 = .ok (.lstore 5, 2) := by decide +kernel
theorem dX12_mostOf_58 : decode cX12_mostOf 58 = .ok (.lload_n 2, 1) := by decide +kernel
theorem dX12_mostOf_59 : decode cX12_mostOf 59 = .ok (.aload_n 0, 1) := by decide +kernel
theorem dX12_mostOf_60 : decode cX12_mostOf 60 = .ok (.getfield 9, 3) := by decide +kernel
theorem dX12_mostOf_63 : decode cX12_mostOf 63 = .ok (.sipush 577, 3) := by decide +kernel
theorem dX12_mostOf_66 : decode cX12_mostOf 66 = .ok (.bipush 6, 2) := by decide +kernel
theorem dX12_mostOf_68 : decode cX12_mostOf 68 = .ok (.iload 4, 2) := by decide +kernel
theorem dX12_mostOf_70 : decode cX12_mostOf 70 = .ok (.imul, 1) := by decide +kernel
theorem dX12_mostOf_71 : decode cX12_mostOf 71 = .ok (.iadd, 1) := by decide +kernel
theorem dX12_mostOf_72 : decode cX12_mostOf 72 = .ok (.iconst 5, 1) := by decide +kernel
theorem dX12_mostOf_73 : decode cX12_mostOf 73 = .ok (.iadd, 1) := by decide +kernel
theorem dX12_mostOf_74 : decode cX12_mostOf 74 = .ok (.iaload, 1) := by decide +kernel
theorem dX12_mostOf_75 : decode cX12_mostOf 75 = .ok (.i2l, 1) := by decide +kernel
theorem dX12_mostOf_76 : decode cX12_mostOf 76 = .ok (.lload 5, 2) := by decide +kernel
theorem dX12_mostOf_78 : decode cX12_mostOf 78 = .ok (.aload_n 0, 1) := by decide +kernel
theorem dX12_mostOf_79 : decode cX12_mostOf 79 = .ok (.iload_n 1, 1) := by decide +kernel
theorem dX12_mostOf_80 : decode cX12_mostOf 80 = .ok (.invokevirtual 351, 3) := by decide +kernel
theorem dX12_mostOf_83 : decode cX12_mostOf 83 = .ok (.invokestatic 354, 3) := by decide +kernel
theorem dX12_mostOf_86 : decode cX12_mostOf 86 = .ok (.lmul, 1) := by decide +kernel
theorem dX12_mostOf_87 : decode cX12_mostOf 87 = .ok (.ladd, 1) := by decide +kernel
theorem dX12_mostOf_88 : decode cX12_mostOf 88 = .ok (.lstore_n 2, 1) := by decide +kernel
theorem dX12_mostOf_89 : decode cX12_mostOf 89 = .ok (.iinc 4 1, 3) := by decide +kernel
theorem dX12_mostOf_92 : decode cX12_mostOf 92 = .ok (.goto (-81), 3) := by decide +kernel
theorem dX12_mostOf_95 : decode cX12_mostOf 95 = .ok (.lload_n 2, 1) := by decide +kernel
theorem dX12_mostOf_96 : decode cX12_mostOf 96 = .ok (.lreturn, 1) := by decide +kernel
theorem dX12_without_0 : decode cX12_without 0 = .ok (.iconst 0, 1) := by decide +kernel
theorem dX12_without_1 : decode cX12_without 1 = .ok (.istore_n 2, 1) := by decide +kernel
theorem dX12_without_2 : decode cX12_without 2 = .ok (.iload_n 2, 1) := by decide +kernel
theorem dX12_without_3 : decode cX12_without 3 = .ok (.bipush 8, 2) := by decide +kernel
theorem dX12_without_5 : decode cX12_without 5 = .ok (.if_icmp .ge 33, 3) := by decide +kernel
theorem dX12_without_8 : decode cX12_without 8 = .ok (.aload_n 0, 1) := by decide +kernel
theorem dX12_without_9 : decode cX12_without 9 = .ok (.getfield 59, 3) := by decide +kernel
theorem dX12_without_12 : decode cX12_without 12 = .ok (.bipush 8, 2) := by decide +kernel
theorem dX12_without_14 : decode cX12_without 14 = .ok (.iload_n 1, 1) := by decide +kernel
theorem dX12_without_15 : decode cX12_without 15 = .ok (.iconst 1, 1) := by decide +kernel
theorem dX12_without_16 : decode cX12_without 16 = .ok (.isub, 1) := by decide +kernel
theorem dX12_without_17 : decode cX12_without 17 = .ok (.imul, 1) := by decide +kernel
theorem dX12_without_18 : decode cX12_without 18 = .ok (.iload_n 2, 1) := by decide +kernel
theorem dX12_without_19 : decode cX12_without 19 = .ok (.iadd, 1) := by decide +kernel
theorem dX12_without_20 : decode cX12_without 20 = .ok (.aload_n 0, 1) := by decide +kernel
theorem dX12_without_21 : decode cX12_without 21 = .ok (.getfield 59, 3) := by decide +kernel
theorem dX12_without_24 : decode cX12_without 24 = .ok (.bipush 8, 2) := by decide +kernel
theorem dX12_without_26 : decode cX12_without 26 = .ok (.iload_n 1, 1) := by decide +kernel
theorem dX12_without_27 : decode cX12_without 27 = .ok (.imul, 1) := by decide +kernel
theorem dX12_without_28 : decode cX12_without 28 = .ok (.iload_n 2, 1) := by decide +kernel
theorem dX12_without_29 : decode cX12_without 29 = .ok (.iadd, 1) := by decide +kernel
theorem dX12_without_30 : decode cX12_without 30 = .ok (.iaload, 1) := by decide +kernel
theorem dX12_without_31 : decode cX12_without 31 = .ok (.iastore, 1) := by decide +kernel
theorem dX12_without_32 : decode cX12_without 32 = .ok (.iinc 2 1, 3) := by decide +kernel
theorem dX12_without_35 : decode cX12_without 35 = .ok (.goto (-33), 3) := by decide +kernel
theorem dX12_without_38 : decode cX12_without 38 = .ok (.aload_n 0, 1) := by decide +kernel
theorem dX12_without_39 : decode cX12_without 39 = .ok (.iload_n 1, 1) := by decide +kernel
theorem dX12_without_40 : decode cX12_without 40 = .ok (.iconst 1, 1) := by decide +kernel
theorem dX12_without_41 : decode cX12_without 41 = .ok (.isub, 1) := by decide +kernel
theorem dX12_without_42 : decode cX12_without 42 = .ok (.invokevirtual 346, 3) := by decide +kernel
theorem dX12_without_45 : decode cX12_without 45 = .ok (.lreturn, 1) := by decide +kernel
theorem dX12_stocks_0 : decode cX12_stocks 0 = .ok (.iconst 0, 1) := by decide +kernel
theorem dX12_stocks_1 : decode cX12_stocks 1 = .ok (.istore_n 2, 1) := by decide +kernel
theorem dX12_stocks_2 : decode cX12_stocks 2 = .ok (.iload_n 2, 1) := by decide +kernel
theorem dX12_stocks_3 : decode cX12_stocks 3 = .ok (.bipush 8, 2) := by decide +kernel
theorem dX12_stocks_5 : decode cX12_stocks 5 = .ok (.if_icmp .ge 44, 3) := by decide +kernel
theorem dX12_stocks_8 : decode cX12_stocks 8 = .ok (.aload_n 0, 1) := by decide +kernel
theorem dX12_stocks_9 : decode cX12_stocks 9 = .ok (.getfield 59, 3) := by decide +kernel
theorem dX12_stocks_12 : decode cX12_stocks 12 = .ok (.bipush 8, 2) := by decide +kernel
theorem dX12_stocks_14 : decode cX12_stocks 14 = .ok (.iload_n 1, 1) := by decide +kernel
theorem dX12_stocks_15 : decode cX12_stocks 15 = .ok (.imul, 1) := by decide +kernel
theorem dX12_stocks_16 : decode cX12_stocks 16 = .ok (.iload_n 2, 1) := by decide +kernel
theorem dX12_stocks_17 : decode cX12_stocks 17 = .ok (.iadd, 1) := by decide +kernel
theorem dX12_stocks_18 : decode cX12_stocks 18 = .ok (.iload_n 2, 1) := by decide +kernel
theorem dX12_stocks_19 : decode cX12_stocks 19 = .ok (.aload_n 0, 1) := by decide +kernel
theorem dX12_stocks_20 : decode cX12_stocks 20 = .ok (.getfield 9, 3) := by decide +kernel
theorem dX12_stocks_23 : decode cX12_stocks 23 = .ok (.iconst 0, 1) := by decide +kernel
theorem dX12_stocks_24 : decode cX12_stocks 24 = .ok (.iaload, 1) := by decide +kernel
theorem dX12_stocks_25 : decode cX12_stocks 25 = .ok (.if_icmp .ge 16, 3) := by decide +kernel
theorem dX12_stocks_28 : decode cX12_stocks 28 = .ok (.aload_n 0, 1) := by decide +kernel
theorem dX12_stocks_29 : decode cX12_stocks 29 = .ok (.getfield 9, 3) := by decide +kernel
theorem dX12_stocks_32 : decode cX12_stocks 32 = .ok (.aload_n 0, 1) := by decide +kernel
theorem dX12_stocks_33 : decode cX12_stocks 33 = .ok (.iload_n 2, 1) := by decide +kernel
theorem dX12_stocks_34 : decode cX12_stocks 34 = .ok (.invokevirtual 293, 3) := by decide +kernel
theorem dX12_stocks_37 : decode cX12_stocks 37 = .ok (.iaload, 1) := by decide +kernel
theorem dX12_stocks_38 : decode cX12_stocks 38 = .ok (.goto 4, 3) := by decide +kernel
theorem dX12_stocks_41 : decode cX12_stocks 41 = .ok (.iconst 0, 1) := by decide +kernel
theorem dX12_stocks_42 : decode cX12_stocks 42 = .ok (.iastore, 1) := by decide +kernel
theorem dX12_stocks_43 : decode cX12_stocks 43 = .ok (.iinc 2 1, 3) := by decide +kernel
theorem dX12_stocks_46 : decode cX12_stocks 46 = .ok (.goto (-44), 3) := by decide +kernel
theorem dX12_stocks_49 : decode cX12_stocks 49 = .ok (.return_, 1) := by decide +kernel
theorem dX12_most_0 : decode cX12_most 0 = .ok (.aload_n 0, 1) := by decide +kernel
theorem dX12_most_1 : decode cX12_most 1 = .ok (.iconst 0, 1) := by decide +kernel
theorem dX12_most_2 : decode cX12_most 2 = .ok (.putfield 80, 3) := by decide +kernel
theorem dX12_most_5 : decode cX12_most 5 = .ok (.iload_n 1, 1) := by decide +kernel
theorem dX12_most_6 : decode cX12_most 6 = .ok (.i2l, 1) := by decide +kernel
theorem dX12_most_7 : decode cX12_most 7 = .ok (.lconst 1, 1) := by decide +kernel
theorem dX12_most_8 : decode cX12_most 8 = .ok (.ldc2_w 115, 3) := by decide +kernel
theorem dX12_most_11 : decode cX12_most 11 = .ok (.invokestatic 83, 3) := by decide +kernel
theorem dX12_most_14 : decode cX12_most 14 = .ok (.ifCond .ne 10, 3) := by decide +kernel
theorem dX12_most_17 : decode cX12_most 17 = .ok (.aload_n 0, 1) := by decide +kernel
theorem dX12_most_18 : decode cX12_most 18 = .ok (.iconst 1, 1) := by decide +kernel
theorem dX12_most_19 : decode cX12_most 19 = .ok (.invokevirtual 95, 3) := by decide +kernel
theorem dX12_most_22 : decode cX12_most 22 = .ok (.i2l, 1) := by decide +kernel
theorem dX12_most_23 : decode cX12_most 23 = .ok (.lreturn, 1) := by decide +kernel
theorem dX12_most_24 : decode cX12_most 24 = .ok (.aload_n 0, 1) := by decide +kernel
theorem dX12_most_25 : decode cX12_most 25 = .ok (.iload_n 1, 1) := by decide +kernel
theorem dX12_most_26 : decode cX12_most 26 = .ok (.invokevirtual 357, 3) := by decide +kernel
theorem dX12_most_29 : decode cX12_most 29 = .ok (.aload_n 0, 1) := by decide +kernel
theorem dX12_most_30 : decode cX12_most 30 = .ok (.iload_n 1, 1) := by decide +kernel
theorem dX12_most_31 : decode cX12_most 31 = .ok (.invokevirtual 346, 3) := by decide +kernel
theorem dX12_most_34 : decode cX12_most 34 = .ok (.lreturn, 1) := by decide +kernel
theorem dX12_serve_0 : decode cX12_serve 0 = .ok (.aload_n 0, 1) := by decide +kernel
theorem dX12_serve_1 : decode cX12_serve 1 = .ok (.iconst 0, 1) := by decide +kernel
theorem dX12_serve_2 : decode cX12_serve 2 = .ok (.putfield 80, 3) := by decide +kernel
theorem dX12_serve_5 : decode cX12_serve 5 = .ok (.aload_n 0, 1) := by decide +kernel
theorem dX12_serve_6 : decode cX12_serve 6 = .ok (.iconst 4, 1) := by decide +kernel
theorem dX12_serve_7 : decode cX12_serve 7 = .ok (.iload_n 2, 1) := by decide +kernel
theorem dX12_serve_8 : decode cX12_serve 8 = .ok (.invokevirtual 87, 3) := by decide +kernel
theorem dX12_serve_11 : decode cX12_serve 11 = .ok (.ifCond .ne 9, 3) := by decide +kernel
theorem dX12_serve_14 : decode cX12_serve 14 = .ok (.aload_n 0, 1) := by decide +kernel
theorem dX12_serve_15 : decode cX12_serve 15 = .ok (.iconst 1, 1) := by decide +kernel
theorem dX12_serve_16 : decode cX12_serve 16 = .ok (.invokevirtual 95, 3) := by decide +kernel
theorem dX12_serve_19 : decode cX12_serve 19 = .ok (.ireturn, 1) := by decide +kernel
theorem dX12_serve_20 : decode cX12_serve 20 = .ok (.iload_n 1, 1) := by decide +kernel
theorem dX12_serve_21 : decode cX12_serve 21 = .ok (.i2l, 1) := by decide +kernel
theorem dX12_serve_22 : decode cX12_serve 22 = .ok (.lconst 1, 1) := by decide +kernel
theorem dX12_serve_23 : decode cX12_serve 23 = .ok (.ldc2_w 115, 3) := by decide +kernel
theorem dX12_serve_26 : decode cX12_serve 26 = .ok (.invokestatic 83, 3) := by decide +kernel
theorem dX12_serve_29 : decode cX12_serve 29 = .ok (.ifCond .ne 9, 3) := by decide +kernel
theorem dX12_serve_32 : decode cX12_serve 32 = .ok (.aload_n 0, 1) := by decide +kernel
theorem dX12_serve_33 : decode cX12_serve 33 = .ok (.iconst 2, 1) := by decide +kernel
theorem dX12_serve_34 : decode cX12_serve 34 = .ok (.invokevirtual 95, 3) := by decide +kernel
theorem dX12_serve_37 : decode cX12_serve 37 = .ok (.ireturn, 1) := by decide +kernel
theorem dX12_serve_38 : decode cX12_serve 38 = .ok (.aload_n 0, 1) := by decide +kernel
theorem dX12_serve_39 : decode cX12_serve 39 = .ok (.iload_n 1, 1) := by decide +kernel
theorem dX12_serve_40 : decode cX12_serve 40 = .ok (.invokevirtual 357, 3) := by decide +kernel
theorem dX12_serve_43 : decode cX12_serve 43 = .ok (.aload_n 0, 1) := by decide +kernel
theorem dX12_serve_44 : decode cX12_serve 44 = .ok (.iload_n 2, 1) := by decide +kernel
theorem dX12_serve_45 : decode cX12_serve 45 = .ok (.iload_n 1, 1) := by decide +kernel
theorem dX12_serve_46 : decode cX12_serve 46 = .ok (.iload_n 1, 1) := by decide +kernel
theorem dX12_serve_47 : decode cX12_serve 47 = .ok (.iconst 1, 1) := by decide +kernel
theorem dX12_serve_48 : decode cX12_serve 48 = .ok (.isub, 1) := by decide +kernel
theorem dX12_serve_49 : decode cX12_serve 49 = .ok (.invokevirtual 339, 3) := by decide +kernel
theorem dX12_serve_52 : decode cX12_serve 52 = .ok (.ifCond .ne 5, 3) := by decide +kernel
theorem dX12_serve_55 : decode cX12_serve 55 = .ok (.iconst (-1), 1) := by decide +kernel
theorem dX12_serve_56 : decode cX12_serve 56 = .ok (.ireturn, 1) := by decide +kernel
theorem dX12_serve_57 : decode cX12_serve 57 = .ok (.aload_n 0, 1) := by decide +kernel
theorem dX12_serve_58 : decode cX12_serve 58 = .ok (.iload_n 1, 1) := by decide +kernel
theorem dX12_serve_59 : decode cX12_serve 59 = .ok (.iconst 1, 1) := by decide +kernel
theorem dX12_serve_60 : decode cX12_serve 60 = .ok (.isub, 1) := by decide +kernel
theorem dX12_serve_61 : decode cX12_serve 61 = .ok (.invokevirtual 343, 3) := by decide +kernel
theorem dX12_serve_64 : decode cX12_serve 64 = .ok (.aload_n 0, 1) := by decide +kernel
theorem dX12_serve_65 : decode cX12_serve 65 = .ok (.iload_n 1, 1) := by decide +kernel
theorem dX12_serve_66 : decode cX12_serve 66 = .ok (.iconst 1, 1) := by decide +kernel
theorem dX12_serve_67 : decode cX12_serve 67 = .ok (.isub, 1) := by decide +kernel
theorem dX12_serve_68 : decode cX12_serve 68 = .ok (.invokevirtual 346, 3) := by decide +kernel
theorem dX12_serve_71 : decode cX12_serve 71 = .ok (.ladd, 1) := by decide +kernel
theorem dX12_serve_72 : decode cX12_serve 72 = .ok (.lstore_n 3, 1) := by decide +kernel
theorem dX12_serve_73 : decode cX12_serve 73 = .ok (.lload_n 3, 1) := by decide +kernel
theorem dX12_serve_74 : decode cX12_serve 74 = .ok (.aload_n 0, 1) := by decide +kernel
theorem dX12_serve_75 : decode cX12_serve 75 = .ok (.iload_n 1, 1) := by decide +kernel
theorem dX12_serve_76 : decode cX12_serve 76 = .ok (.invokevirtual 351, 3) := by decide +kernel
theorem dX12_serve_79 : decode cX12_serve 79 = .ok (.lcmp, 1) := by decide +kernel
theorem dX12_serve_80 : decode cX12_serve 80 = .ok (.ifCond .lt 7, 3) := by decide +kernel
theorem dX12_serve_83 : decode cX12_serve 83 = .ok (.iconst 1, 1) := by decide +kernel
theorem dX12_serve_84 : decode cX12_serve 84 = .ok (.goto 4, 3) := by decide +kernel
theorem dX12_serve_87 : decode cX12_serve 87 = .ok (.iconst 0, 1) := by decide +kernel
theorem dX12_serve_88 : decode cX12_serve 88 = .ok (.ireturn, 1) := by decide +kernel
theorem dX12_machine_0 : decode cX12_machine 0 = .ok (.aload_n 0, 1) := by decide +kernel
theorem dX12_machine_1 : decode cX12_machine 1 = .ok (.iconst 0, 1) := by decide +kernel
theorem dX12_machine_2 : decode cX12_machine 2 = .ok (.putfield 80, 3) := by decide +kernel
theorem dX12_machine_5 : decode cX12_machine 5 = .ok (.iload_n 1, 1) := by decide +kernel
theorem dX12_machine_6 : decode cX12_machine 6 = .ok (.i2l, 1) := by decide +kernel
theorem dX12_machine_7 : decode cX12_machine 7 = .ok (.lconst 0, 1) := by decide +kernel
theorem dX12_machine_8 : decode cX12_machine 8 = .ok (.ldc2_w 360, 3) := by decide +kernel
theorem dX12_machine_11 : decode cX12_machine 11 = .ok (.invokestatic 83, 3) := by decide +kernel
theorem dX12_machine_14 : decode cX12_machine 14 = .ok (.ifCond .eq 15, 3) := by decide +kernel
theorem dX12_machine_17 : decode cX12_machine 17 = .ok (.iload_n 2, 1) := by decide +kernel
theorem dX12_machine_18 : decode cX12_machine 18 = .ok (.i2l, 1) := by decide +kernel
theorem dX12_machine_19 : decode cX12_machine 19 = .ok (.lconst 1, 1) := by decide +kernel
theorem dX12_machine_20 : decode cX12_machine 20 = .ok (.ldc2_w 360, 3) := by decide +kernel
theorem dX12_machine_23 : decode cX12_machine 23 = .ok (.invokestatic 83, 3) := by decide +kernel
theorem dX12_machine_26 : decode cX12_machine 26 = .ok (.ifCond .ne 9, 3) := by decide +kernel
theorem dX12_machine_29 : decode cX12_machine 29 = .ok (.aload_n 0, 1) := by decide +kernel
theorem dX12_machine_30 : decode cX12_machine 30 = .ok (.iconst 1, 1) := by decide +kernel
theorem dX12_machine_31 : decode cX12_machine 31 = .ok (.invokevirtual 95, 3) := by decide +kernel
theorem dX12_machine_34 : decode cX12_machine 34 = .ok (.ireturn, 1) := by decide +kernel
theorem dX12_machine_35 : decode cX12_machine 35 = .ok (.aload_n 0, 1) := by decide +kernel
theorem dX12_machine_36 : decode cX12_machine 36 = .ok (.getfield 9, 3) := by decide +kernel
theorem dX12_machine_39 : decode cX12_machine 39 = .ok (.iconst 5, 1) := by decide +kernel
theorem dX12_machine_40 : decode cX12_machine 40 = .ok (.iaload, 1) := by decide +kernel
theorem dX12_machine_41 : decode cX12_machine 41 = .ok (.iconst 4, 1) := by decide +kernel
theorem dX12_machine_42 : decode cX12_machine 42 = .ok (.if_icmp .ne 5, 3) := by decide +kernel
theorem dX12_machine_45 : decode cX12_machine 45 = .ok (.iconst (-1), 1) := by decide +kernel
theorem dX12_machine_46 : decode cX12_machine 46 = .ok (.ireturn, 1) := by decide +kernel
theorem dX12_machine_47 : decode cX12_machine 47 = .ok (.aload_n 0, 1) := by decide +kernel
theorem dX12_machine_48 : decode cX12_machine 48 = .ok (.getfield 9, 3) := by decide +kernel
theorem dX12_machine_51 : decode cX12_machine 51 = .ok (.sipush 607, 3) := by decide +kernel
theorem dX12_machine_54 : decode cX12_machine 54 = .ok (.iconst 2, 1) := by decide +kernel
theorem dX12_machine_55 : decode cX12_machine 55 = .ok (.aload_n 0, 1) := by decide +kernel
theorem dX12_machine_56 : decode cX12_machine 56 = .ok (.getfield 9, 3) := by decide +kernel
theorem dX12_machine_59 : decode cX12_machine 59 = .ok (.iconst 5, 1) := by decide +kernel
theorem dX12_machine_60 : decode cX12_machine 60 = .ok (.iaload, 1) := by decide +kernel
theorem dX12_machine_61 : decode cX12_machine 61 = .ok (.imul, 1) := by decide +kernel
theorem dX12_machine_62 : decode cX12_machine 62 = .ok (.iadd, 1) := by decide +kernel
theorem dX12_machine_63 : decode cX12_machine 63 = .ok (.iload_n 1, 1) := by decide +kernel
theorem dX12_machine_64 : decode cX12_machine 64 = .ok (.iastore, 1) := by decide +kernel
theorem dX12_machine_65 : decode cX12_machine 65 = .ok (.aload_n 0, 1) := by decide +kernel
theorem dX12_machine_66 : decode cX12_machine 66 = .ok (.getfield 9, 3) := by decide +kernel
theorem dX12_machine_69 : decode cX12_machine 69 = .ok (.sipush 607, 3) := by decide +kernel
theorem dX12_machine_72 : decode cX12_machine 72 = .ok (.iconst 2, 1) := by decide +kernel
theorem dX12_machine_73 : decode cX12_machine 73 = .ok (.aload_n 0, 1) := by decide +kernel
theorem dX12_machine_74 : decode cX12_machine 74 = .ok (.getfield 9, 3) := by decide +kernel
theorem dX12_machine_77 : decode cX12_machine 77 = .ok (.iconst 5, 1) := by decide +kernel
theorem dX12_machine_78 : decode cX12_machine 78 = .ok (.iaload, 1) := by decide +kernel
theorem dX12_machine_79 : decode cX12_machine 79 = .ok (.imul, 1) := by decide +kernel
theorem dX12_machine_80 : decode cX12_machine 80 = .ok (.iadd, 1) := by decide +kernel
theorem dX12_machine_81 : decode cX12_machine 81 = .ok (.iconst 1, 1) := by decide +kernel
theorem dX12_machine_82 : decode cX12_machine 82 = .ok (.iadd, 1) := by decide +kernel
theorem dX12_machine_83 : decode cX12_machine 83 = .ok (.iload_n 2, 1) := by decide +kernel
theorem dX12_machine_84 : decode cX12_machine 84 = .ok (.iastore, 1) := by decide +kernel
theorem dX12_machine_85 : decode cX12_machine 85 = .ok (.aload_n 0, 1) := by decide +kernel
theorem dX12_machine_86 : decode cX12_machine 86 = .ok (.getfield 9, 3) := by decide +kernel
theorem dX12_machine_89 : decode cX12_machine 89 = .ok (.iconst 5, 1) := by decide +kernel
theorem dX12_machine_90 : decode cX12_machine 90 = .ok (.dup2, 1) := by decide +kernel
theorem dX12_machine_91 : decode cX12_machine 91 = .ok (.iaload, 1) := by decide +kernel
theorem dX12_machine_92 : decode cX12_machine 92 = .ok (.iconst 1, 1) := by decide +kernel
theorem dX12_machine_93 : decode cX12_machine 93 = .ok (.iadd, 1) := by decide +kernel
theorem dX12_machine_94 : decode cX12_machine 94 = .ok (.iastore, 1) := by decide +kernel
theorem dX12_machine_95 : decode cX12_machine 95 = .ok (.aload_n 0, 1) := by decide +kernel
theorem dX12_machine_96 : decode cX12_machine 96 = .ok (.getfield 9, 3) := by decide +kernel
theorem dX12_machine_99 : decode cX12_machine 99 = .ok (.iconst 5, 1) := by decide +kernel
theorem dX12_machine_100 : decode cX12_machine 100 = .ok (.iaload, 1) := by decide +kernel
theorem dX12_machine_101 : decode cX12_machine 101 = .ok (.iconst 1, 1) := by decide +kernel
theorem dX12_machine_102 : decode cX12_machine 102 = .ok (.isub, 1) := by decide +kernel
theorem dX12_machine_103 : decode cX12_machine 103 = .ok (.ireturn, 1) := by decide +kernel
theorem dX12_fills_0 : decode cX12_fills 0 = .ok (.aload_n 0, 1) := by decide +kernel
theorem dX12_fills_1 : decode cX12_fills 1 = .ok (.getfield 362, 3) := by decide +kernel
theorem dX12_fills_4 : decode cX12_fills 4 = .ok (.iconst (-1), 1) := by decide +kernel
theorem dX12_fills_5 : decode cX12_fills 5 = .ok (.if_icmp .eq 12, 3) := by decide +kernel
theorem dX12_fills_8 : decode cX12_fills 8 = .ok (.iload_n 3, 1) := by decide +kernel
theorem dX12_fills_9 : decode cX12_fills 9 = .ok (.aload_n 0, 1) := by decide +kernel
theorem dX12_fills_10 : decode cX12_fills 10 = .ok (.getfield 362, 3) := by decide +kernel
theorem dX12_fills_13 : decode cX12_fills 13 = .ok (.if_icmp .lt 4, 3) := by decide +kernel
theorem dX12_fills_16 : decode cX12_fills 16 = .ok (.return_, 1) := by decide +kernel
theorem dX12_fills_17 : decode cX12_fills 17 = .ok (.iload_n 1, 1) := by decide +kernel
theorem dX12_fills_18 : decode cX12_fills 18 = .ok (.iload_n 2, 1) := by decide +kernel
theorem dX12_fills_19 : decode cX12_fills 19 = .ok (.if_icmp .ne 38, 3) := by decide +kernel
theorem dX12_fills_22 : decode cX12_fills 22 = .ok (.aload_n 0, 1) := by decide +kernel
theorem dX12_fills_23 : decode cX12_fills 23 = .ok (.iload_n 3, 1) := by decide +kernel
theorem dX12_fills_24 : decode cX12_fills 24 = .ok (.putfield 362, 3) := by decide +kernel
theorem dX12_fills_27 : decode cX12_fills 27 = .ok (.iconst 0, 1) := by decide +kernel
theorem dX12_fills_28 : decode cX12_fills 28 = .ok (.istore 4, 2) := by decide +kernel
theorem dX12_fills_30 : decode cX12_fills 30 = .ok (.iload 4, 2) := by decide +kernel
theorem dX12_fills_32 : decode cX12_fills 32 = .ok (.iload_n 2, 1) := by decide +kernel
theorem dX12_fills_33 : decode cX12_fills 33 = .ok (.if_icmp .ge 23, 3) := by decide +kernel
theorem dX12_fills_36 : decode cX12_fills 36 = .ok (.aload_n 0, 1) := by decide +kernel
theorem dX12_fills_37 : decode cX12_fills 37 = .ok (.getfield 65, 3) := by decide +kernel
theorem dX12_fills_40 : decode cX12_fills 40 = .ok (.iload 4, 2) := by decide +kernel
theorem dX12_fills_42 : decode cX12_fills 42 = .ok (.aload_n 0, 1) := by decide +kernel
theorem dX12_fills_43 : decode cX12_fills 43 = .ok (.getfield 62, 3) := by decide +kernel
theorem dX12_fills_46 : decode cX12_fills 46 = .ok (.iload 4, 2) := by decide +kernel
theorem dX12_fills_48 : decode cX12_fills 48 = .ok (.iaload, 1) := by decide +kernel
theorem dX12_fills_49 : decode cX12_fills 49 = .ok (.iastore, 1) := by decide +kernel
theorem dX12_fills_50 : decode cX12_fills 50 = .ok (.iinc 4 1, 3) := by decide +kernel
theorem dX12_fills_53 : decode cX12_fills 53 = .ok (.goto (-23), 3) := by decide +kernel
theorem dX12_fills_56 : decode cX12_fills 56 = .ok (.return_, 1) := by decide +kernel
theorem dX12_fills_57 : decode cX12_fills 57 = .ok (.iconst 0, 1) := by decide +kernel
theorem dX12_fills_58 : decode cX12_fills 58 = .ok (.istore 4, 2) := by decide +kernel
theorem dX12_fills_60 : decode cX12_fills 60 = .ok (.iload 4, 2) := by decide +kernel
theorem dX12_fills_62 : decode cX12_fills 62 = .ok (.aload_n 0, 1) := by decide +kernel
theorem dX12_fills_63 : decode cX12_fills 63 = .ok (.getfield 9, 3) := by decide +kernel
theorem dX12_fills_66 : decode cX12_fills 66 = .ok (.iconst 5, 1) := by decide +kernel
theorem dX12_fills_67 : decode cX12_fills 67 = .ok (.iaload, 1) := by decide +kernel
theorem dX12_fills_68 : decode cX12_fills 68 = .ok (.if_icmp .ge 126, 3) := by decide +kernel
theorem dX12_fills_71 : decode cX12_fills 71 = .ok (.iconst 0, 1) := by decide +kernel
theorem dX12_fills_72 : decode cX12_fills 72 = .ok (.istore 5, 2) := by decide +kernel
theorem dX12_fills_74 : decode cX12_fills 74 = .ok (.iconst 0, 1) := by decide +kernel
theorem dX12_fills_75 : decode cX12_fills 75 = .ok (.istore 6, 2) := by decide +kernel
theorem dX12_fills_77 : decode cX12_fills 77 = .ok (.iload 6, 2) := by decide +kernel
theorem dX12_fills_79 : decode cX12_fills 79 = .ok (.aload_n 0, 1) := by decide +kernel
theorem dX12_fills_80 : decode cX12_fills 80 = .ok (.getfield 9, 3) := by decide +kernel
theorem dX12_fills_83 : decode cX12_fills 83 = .ok (.iconst 5, 1) := by decide +kernel
theorem dX12_fills_84 : decode cX12_fills 84 = .ok (.iaload, 1) := by decide +kernel
theorem dX12_fills_85 : decode cX12_fills 85 = .ok (.if_icmp .ge 83, 3) := by decide +kernel
theorem dX12_fills_88 : decode cX12_fills 88 = .ok (.iload 6, 2) := by decide +kernel
theorem dX12_fills_90 : decode cX12_fills 90 = .ok (.iload 4, 2) := by decide +kernel
theorem dX12_fills_92 : decode cX12_fills 92 = .ok (.if_icmp .ne 21, 3) := by decide +kernel
theorem dX12_fills_95 : decode cX12_fills 95 = .ok (.aload_n 0, 1) := by decide +kernel
theorem dX12_fills_96 : decode cX12_fills 96 = .ok (.getfield 9, 3) := by decide +kernel
theorem dX12_fills_99 : decode cX12_fills 99 = .ok (.sipush 607, 3) := by decide +kernel
theorem dX12_fills_102 : decode cX12_fills 102 = .ok (.iconst 2, 1) := by decide +kernel
theorem dX12_fills_103 : decode cX12_fills 103 = .ok (.iload 6, 2) := by decide +kernel
theorem dX12_fills_105 : decode cX12_fills 105 = .ok (.imul, 1) := by decide +kernel
theorem dX12_fills_106 : decode cX12_fills 106 = .ok (.iadd, 1) := by decide +kernel
theorem dX12_fills_107 : decode cX12_fills 107 = .ok (.iconst 1, 1) := by decide +kernel
theorem dX12_fills_108 : decode cX12_fills 108 = .ok (.iadd, 1) := by decide +kernel
theorem dX12_fills_109 : decode cX12_fills 109 = .ok (.iaload, 1) := by decide +kernel
theorem dX12_fills_110 : decode cX12_fills 110 = .ok (.goto 14, 3) := by decide +kernel
theorem dX12_fills_113 : decode cX12_fills 113 = .ok (.aload_n 0, 1) := by decide +kernel
theorem dX12_fills_114 : decode cX12_fills 114 = .ok (.getfield 68, 3) := by decide +kernel
theorem dX12_fills_117 : decode cX12_fills 117 = .ok (.iconst 4, 1) := by decide +kernel
theorem dX12_fills_118 : decode cX12_fills 118 = .ok (.iload_n 1, 1) := by decide +kernel
theorem dX12_fills_119 : decode cX12_fills 119 = .ok (.imul, 1) := by decide +kernel
theorem dX12_fills_120 : decode cX12_fills 120 = .ok (.iload 6, 2) := by decide +kernel
theorem dX12_fills_122 : decode cX12_fills 122 = .ok (.iadd, 1) := by decide +kernel
theorem dX12_fills_123 : decode cX12_fills 123 = .ok (.iaload, 1) := by decide +kernel
theorem dX12_fills_124 : decode cX12_fills 124 = .ok (.istore 7, 2) := by decide +kernel
theorem dX12_fills_126 : decode cX12_fills 126 = .ok (.iload 5, 2) := by decide +kernel
theorem dX12_fills_128 : decode cX12_fills 128 = .ok (.iload 7, 2) := by decide +kernel
theorem dX12_fills_130 : decode cX12_fills 130 = .ok (.ifCond .ne 7, 3) := by decide +kernel
theorem dX12_fills_133 : decode cX12_fills 133 = .ok (.iconst 1, 1) := by decide +kernel
theorem dX12_fills_134 : decode cX12_fills 134 = .ok (.goto 4, 3) := by decide +kernel
theorem dX12_fills_137 : decode cX12_fills 137 = .ok (.iconst 0, 1) := by decide +kernel
theorem dX12_fills_138 : decode cX12_fills 138 = .ok (.iadd, 1) := by decide +kernel
theorem dX12_fills_139 : decode cX12_fills 139 = .ok (.istore 5, 2) := by decide +kernel
theorem dX12_fills_141 : decode cX12_fills 141 = .ok (.aload_n 0, 1) := by decide +kernel
theorem dX12_fills_142 : decode cX12_fills 142 = .ok (.getfield 68, 3) := by decide +kernel
theorem dX12_fills_145 : decode cX12_fills 145 = .ok (.iconst 4, 1) := by decide +kernel
theorem dX12_fills_146 : decode cX12_fills 146 = .ok (.iload_n 1, 1) := by decide +kernel
theorem dX12_fills_147 : decode cX12_fills 147 = .ok (.iconst 1, 1) := by decide +kernel
theorem dX12_fills_148 : decode cX12_fills 148 = .ok (.iadd, 1) := by decide +kernel
theorem dX12_fills_149 : decode cX12_fills 149 = .ok (.imul, 1) := by decide +kernel
theorem dX12_fills_150 : decode cX12_fills 150 = .ok (.iload 6, 2) := by decide +kernel
theorem dX12_fills_152 : decode cX12_fills 152 = .ok (.iadd, 1) := by decide +kernel
theorem dX12_fills_153 : decode cX12_fills 153 = .ok (.iconst 0, 1) := by decide +kernel
theorem dX12_fills_154 : decode cX12_fills 154 = .ok (.iload 7, 2) := by decide +kernel
theorem dX12_fills_156 : decode cX12_fills 156 = .ok (.iconst 1, 1) := by decide +kernel
theorem dX12_fills_157 : decode cX12_fills 157 = .ok (.isub, 1) := by decide +kernel
theorem dX12_fills_158 : decode cX12_fills 158 = .ok (.invokestatic 123, 3) := by decide +kernel
theorem dX12_fills_161 : decode cX12_fills 161 = .ok (.iastore, 1) := by decide +kernel
theorem dX12_fills_162 : decode cX12_fills 162 = .ok (.iinc 6 1, 3) := by decide +kernel
theorem dX12_fills_165 : decode cX12_fills 165 = .ok (.goto (-88), 3) := by decide +kernel
theorem dX12_fills_168 : decode cX12_fills 168 = .ok (.aload_n 0, 1) := by decide +kernel
theorem dX12_fills_169 : decode cX12_fills 169 = .ok (.getfield 62, 3) := by decide +kernel
theorem dX12_fills_172 : decode cX12_fills 172 = .ok (.iload_n 1, 1) := by decide +kernel
theorem dX12_fills_173 : decode cX12_fills 173 = .ok (.iload 4, 2) := by decide +kernel
theorem dX12_fills_175 : decode cX12_fills 175 = .ok (.iastore, 1) := by decide +kernel
theorem dX12_fills_176 : decode cX12_fills 176 = .ok (.aload_n 0, 1) := by decide +kernel
theorem dX12_fills_177 : decode cX12_fills 177 = .ok (.iload_n 1, 1) := by decide +kernel
theorem dX12_fills_178 : decode cX12_fills 178 = .ok (.iconst 1, 1) := by decide +kernel
theorem dX12_fills_179 : decode cX12_fills 179 = .ok (.iadd, 1) := by decide +kernel
theorem dX12_fills_180 : decode cX12_fills 180 = .ok (.iload_n 2, 1) := by decide +kernel
theorem dX12_fills_181 : decode cX12_fills 181 = .ok (.iload_n 3, 1) := by decide +kernel
theorem dX12_fills_182 : decode cX12_fills 182 = .ok (.iload 5, 2) := by decide +kernel
theorem dX12_fills_184 : decode cX12_fills 184 = .ok (.iadd, 1) := by decide +kernel
theorem dX12_fills_185 : decode cX12_fills 185 = .ok (.invokevirtual 365, 3) := by decide +kernel
theorem dX12_fills_188 : decode cX12_fills 188 = .ok (.iinc 4 1, 3) := by decide +kernel
