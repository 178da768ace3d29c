theorem dX11_init_0 : decode cX11_init 0 = .ok (.aload_n 0, 1) := by decide +kernel
theorem dX11_init_1 : decode cX11_init 1 = .ok (.invokespecial 1, 3) := by decide +kernel
theorem dX11_init_4 : decode cX11_init 4 = .ok (.aload_n 0, 1) := by decide +kernel
theorem dX11_init_5 : decode cX11_init 5 = .ok (.new 7, 3) := by decide +kernel
theorem dX11_init_8 : decode cX11_init 8 = .ok (.dup, 1) := by decide +kernel
theorem dX11_init_9 : decode cX11_init 9 = .ok (.invokespecial 9, 3) := by decide +kernel
theorem dX11_init_12 : decode cX11_init 12 = .ok (.putfield 10, 3) := by decide +kernel
theorem dX11_init_15 : decode cX11_init 15 = .ok (.aload_n 0, 1) := by decide +kernel
theorem dX11_init_16 : decode cX11_init 16 = .ok (.iconst 3, 1) := by decide +kernel
theorem dX11_init_17 : decode cX11_init 17 = .ok (.anewarray 7, 3) := by decide +kernel
theorem dX11_init_20 : decode cX11_init 20 = .ok (.putfield 16, 3) := by decide +kernel
theorem dX11_init_23 : decode cX11_init 23 = .ok (.aload_n 0, 1) := by decide +kernel
theorem dX11_init_24 : decode cX11_init 24 = .ok (.iconst 3, 1) := by decide +kernel
theorem dX11_init_25 : decode cX11_init 25 = .ok (.newarray .boolean, 2) := by decide +kernel
theorem dX11_init_27 : decode cX11_init 27 = .ok (.putfield 20, 3) := by decide +kernel
theorem dX11_init_30 : decode cX11_init 30 = .ok (.aload_n 0, 1) := by decide +kernel
theorem dX11_init_31 : decode cX11_init 31 = .ok (.iconst 4, 1) := by decide +kernel
theorem dX11_init_32 : decode cX11_init 32 = .ok (.anewarray 24, 3) := by decide +kernel
theorem dX11_init_35 : decode cX11_init 35 = .ok (.putfield 26, 3) := by decide +kernel
theorem dX11_init_38 : decode cX11_init 38 = .ok (.aload_n 0, 1) := by decide +kernel
theorem dX11_init_39 : decode cX11_init 39 = .ok (.new 30, 3) := by decide +kernel
theorem dX11_init_42 : decode cX11_init 42 = .ok (.dup, 1) := by decide +kernel
theorem dX11_init_43 : decode cX11_init 43 = .ok (.invokespecial 32, 3) := by decide +kernel
theorem dX11_init_46 : decode cX11_init 46 = .ok (.putfield 33, 3) := by decide +kernel
theorem dX11_init_49 : decode cX11_init 49 = .ok (.aload_n 0, 1) := by decide +kernel
theorem dX11_init_50 : decode cX11_init 50 = .ok (.new 37, 3) := by decide +kernel
theorem dX11_init_53 : decode cX11_init 53 = .ok (.dup, 1) := by decide +kernel
theorem dX11_init_54 : decode cX11_init 54 = .ok (.aload_n 0, 1) := by decide +kernel
theorem dX11_init_55 : decode cX11_init 55 = .ok (.getfield 10, 3) := by decide +kernel
theorem dX11_init_58 : decode cX11_init 58 = .ok (.getfield 39, 3) := by decide +kernel
theorem dX11_init_61 : decode cX11_init 61 = .ok (.aload_n 0, 1) := by decide +kernel
theorem dX11_init_62 : decode cX11_init 62 = .ok (.getfield 10, 3) := by decide +kernel
theorem dX11_init_65 : decode cX11_init 65 = .ok (.getfield 43, 3) := by decide +kernel
theorem dX11_init_68 : decode cX11_init 68 = .ok (.invokespecial 47, 3) := by decide +kernel
theorem dX11_init_71 : decode cX11_init 71 = .ok (.putfield 50, 3) := by decide +kernel
theorem dX11_init_74 : decode cX11_init 74 = .ok (.aload_n 0, 1) := by decide +kernel
theorem dX11_init_75 : decode cX11_init 75 = .ok (.new 54, 3) := by decide +kernel
theorem dX11_init_78 : decode cX11_init 78 = .ok (.dup, 1) := by decide +kernel
theorem dX11_init_79 : decode cX11_init 79 = .ok (.aload_n 0, 1) := by decide +kernel
theorem dX11_init_80 : decode cX11_init 80 = .ok (.getfield 10, 3) := by decide +kernel
theorem dX11_init_83 : decode cX11_init 83 = .ok (.getfield 39, 3) := by decide +kernel
theorem dX11_init_86 : decode cX11_init 86 = .ok (.invokespecial 56, 3) := by decide +kernel
theorem dX11_init_89 : decode cX11_init 89 = .ok (.putfield 59, 3) := by decide +kernel
theorem dX11_init_92 : decode cX11_init 92 = .ok (.aload_n 0, 1) := by decide +kernel
theorem dX11_init_93 : decode cX11_init 93 = .ok (.new 63, 3) := by decide +kernel
theorem dX11_init_96 : decode cX11_init 96 = .ok (.dup, 1) := by decide +kernel
theorem dX11_init_97 : decode cX11_init 97 = .ok (.aload_n 0, 1) := by decide +kernel
theorem dX11_init_98 : decode cX11_init 98 = .ok (.getfield 10, 3) := by decide +kernel
theorem dX11_init_101 : decode cX11_init 101 = .ok (.aload_n 0, 1) := by decide +kernel
theorem dX11_init_102 : decode cX11_init 102 = .ok (.getfield 50, 3) := by decide +kernel
theorem dX11_init_105 : decode cX11_init 105 = .ok (.invokespecial 65, 3) := by decide +kernel
theorem dX11_init_108 : decode cX11_init 108 = .ok (.putfield 68, 3) := by decide +kernel
theorem dX11_init_111 : decode cX11_init 111 = .ok (.aload_n 0, 1) := by decide +kernel
theorem dX11_init_112 : decode cX11_init 112 = .ok (.new 72, 3) := by decide +kernel
theorem dX11_init_115 : decode cX11_init 115 = .ok (.dup, 1) := by decide +kernel
theorem dX11_init_116 : decode cX11_init 116 = .ok (.aload_n 0, 1) := by decide +kernel
theorem dX11_init_117 : decode cX11_init 117 = .ok (.getfield 10, 3) := by decide +kernel
theorem dX11_init_120 : decode cX11_init 120 = .ok (.aload_n 0, 1) := by decide +kernel
theorem dX11_init_121 : decode cX11_init 121 = .ok (.getfield 59, 3) := by decide +kernel
theorem dX11_init_124 : decode cX11_init 124 = .ok (.invokespecial 74, 3) := by decide +kernel
theorem dX11_init_127 : decode cX11_init 127 = .ok (.putfield 77, 3) := by decide +kernel
theorem dX11_init_130 : decode cX11_init 130 = .ok (.aload_n 0, 1) := by decide +kernel
theorem dX11_init_131 : decode cX11_init 131 = .ok (.new 81, 3) := by decide +kernel
theorem dX11_init_134 : decode cX11_init 134 = .ok (.dup, 1) := by decide +kernel
theorem dX11_init_135 : decode cX11_init 135 = .ok (.aload_n 0, 1) := by decide +kernel
theorem dX11_init_136 : decode cX11_init 136 = .ok (.getfield 10, 3) := by decide +kernel
theorem dX11_init_139 : decode cX11_init 139 = .ok (.invokespecial 83, 3) := by decide +kernel
theorem dX11_init_142 : decode cX11_init 142 = .ok (.putfield 86, 3) := by decide +kernel
theorem dX11_init_145 : decode cX11_init 145 = .ok (.iconst 0, 1) := by decide +kernel
theorem dX11_init_146 : decode cX11_init 146 = .ok (.istore_n 1, 1) := by decide +kernel
theorem dX11_init_147 : decode cX11_init 147 = .ok (.iload_n 1, 1) := by decide +kernel
theorem dX11_init_148 : decode cX11_init 148 = .ok (.iconst 3, 1) := by decide +kernel
theorem dX11_init_149 : decode cX11_init 149 = .ok (.if_icmp .ge 22, 3) := by decide +kernel
theorem dX11_init_152 : decode cX11_init 152 = .ok (.aload_n 0, 1) := by decide +kernel
theorem dX11_init_153 : decode cX11_init 153 = .ok (.getfield 16, 3) := by decide +kernel
theorem dX11_init_156 : decode cX11_init 156 = .ok (.iload_n 1, 1) := by decide +kernel
theorem dX11_init_157 : decode cX11_init 157 = .ok (.new 7, 3) := by decide +kernel
theorem dX11_init_160 : decode cX11_init 160 = .ok (.dup, 1) := by decide +kernel
theorem dX11_init_161 : decode cX11_init 161 = .ok (.invokespecial 9, 3) := by decide +kernel
theorem dX11_init_164 : decode cX11_init 164 = .ok (.aastore, 1) := by decide +kernel
theorem dX11_init_165 : decode cX11_init 165 = .ok (.iinc 1 1, 3) := by decide +kernel
theorem dX11_init_168 : decode cX11_init 168 = .ok (.goto (-21), 3) := by decide +kernel
theorem dX11_init_171 : decode cX11_init 171 = .ok (.iconst 0, 1) := by decide +kernel
theorem dX11_init_172 : decode cX11_init 172 = .ok (.istore_n 1, 1) := by decide +kernel
theorem dX11_init_173 : decode cX11_init 173 = .ok (.iload_n 1, 1) := by decide +kernel
theorem dX11_init_174 : decode cX11_init 174 = .ok (.iconst 4, 1) := by decide +kernel
theorem dX11_init_175 : decode cX11_init 175 = .ok (.if_icmp .ge 22, 3) := by decide +kernel
theorem dX11_init_178 : decode cX11_init 178 = .ok (.aload_n 0, 1) := by decide +kernel
theorem dX11_init_179 : decode cX11_init 179 = .ok (.getfield 26, 3) := by decide +kernel
theorem dX11_init_182 : decode cX11_init 182 = .ok (.iload_n 1, 1) := by decide +kernel
theorem dX11_init_183 : decode cX11_init 183 = .ok (.new 24, 3) := by decide +kernel
theorem dX11_init_186 : decode cX11_init 186 = .ok (.dup, 1) := by decide +kernel
theorem dX11_init_187 : decode cX11_init 187 = .ok (.invokespecial 90, 3) := by decide +kernel
theorem dX11_init_190 : decode cX11_init 190 = .ok (.aastore, 1) := by decide +kernel
theorem dX11_init_191 : decode cX11_init 191 = .ok (.iinc 1 1, 3) := by decide +kernel
theorem dX11_init_194 : decode cX11_init 194 = .ok (.goto (-21), 3) := by decide +kernel
theorem dX11_init_197 : decode cX11_init 197 = .ok (.return_, 1) := by decide +kernel
theorem dX11_sort_0 : decode cX11_sort 0 = .ok (.iload_n 1, 1) := by decide +kernel
theorem dX11_sort_1 : decode cX11_sort 1 = .ok (.i2l, 1) := by decide +kernel
theorem dX11_sort_2 : decode cX11_sort 2 = .ok (.lconst 0, 1) := by decide +kernel
theorem dX11_sort_3 : decode cX11_sort 3 = .ok (.ldc2_w 91, 3) := by decide +kernel
theorem dX11_sort_6 : decode cX11_sort 6 = .ok (.invokestatic 93, 3) := by decide +kernel
theorem dX11_sort_9 : decode cX11_sort 9 = .ok (.invokestatic 97, 3) := by decide +kernel
theorem dX11_sort_12 : decode cX11_sort 12 = .ok (.iload_n 2, 1) := by decide +kernel
theorem dX11_sort_13 : decode cX11_sort 13 = .ok (.i2l, 1) := by decide +kernel
theorem dX11_sort_14 : decode cX11_sort 14 = .ok (.lconst 0, 1) := by decide +kernel
theorem dX11_sort_15 : decode cX11_sort 15 = .ok (.ldc2_w 101, 3) := by decide +kernel
theorem dX11_sort_18 : decode cX11_sort 18 = .ok (.invokestatic 93, 3) := by decide +kernel
theorem dX11_sort_21 : decode cX11_sort 21 = .ok (.ifCond .eq 20, 3) := by decide +kernel
theorem dX11_sort_24 : decode cX11_sort 24 = .ok (.iload_n 3, 1) := by decide +kernel
theorem dX11_sort_25 : decode cX11_sort 25 = .ok (.i2l, 1) := by decide +kernel
theorem dX11_sort_26 : decode cX11_sort 26 = .ok (.iload_n 2, 1) := by decide +kernel
theorem dX11_sort_27 : decode cX11_sort 27 = .ok (.i2l, 1) := by decide +kernel
theorem dX11_sort_28 : decode cX11_sort 28 = .ok (.ldc2_w 101, 3) := by decide +kernel
theorem dX11_sort_31 : decode cX11_sort 31 = .ok (.invokestatic 93, 3) := by decide +kernel
theorem dX11_sort_34 : decode cX11_sort 34 = .ok (.ifCond .eq 7, 3) := by decide +kernel
theorem dX11_sort_37 : decode cX11_sort 37 = .ok (.iconst 1, 1) := by decide +kernel
theorem dX11_sort_38 : decode cX11_sort 38 = .ok (.goto 4, 3) := by decide +kernel
theorem dX11_sort_41 : decode cX11_sort 41 = .ok (.iconst 0, 1) := by decide +kernel
theorem dX11_sort_42 : decode cX11_sort 42 = .ok (.invokestatic 97, 3) := by decide +kernel
theorem dX11_sort_45 : decode cX11_sort 45 = .ok (.aload_n 0, 1) := by decide +kernel
theorem dX11_sort_46 : decode cX11_sort 46 = .ok (.getfield 10, 3) := by decide +kernel
theorem dX11_sort_49 : decode cX11_sort 49 = .ok (.getfield 39, 3) := by decide +kernel
theorem dX11_sort_52 : decode cX11_sort 52 = .ok (.iload_n 1, 1) := by decide +kernel
theorem dX11_sort_53 : decode cX11_sort 53 = .ok (.iload_n 2, 1) := by decide +kernel
theorem dX11_sort_54 : decode cX11_sort 54 = .ok (.iload_n 3, 1) := by decide +kernel
theorem dX11_sort_55 : decode cX11_sort 55 = .ok (.invokevirtual 103, 3) := by decide +kernel
theorem dX11_sort_58 : decode cX11_sort 58 = .ok (.ireturn, 1) := by decide +kernel
theorem dX11_span_0 : decode cX11_span 0 = .ok (.aload_n 0, 1) := by decide +kernel
theorem dX11_span_1 : decode cX11_span 1 = .ok (.iload_n 1, 1) := by decide +kernel
theorem dX11_span_2 : decode cX11_span 2 = .ok (.invokevirtual 109, 3) := by decide +kernel
theorem dX11_span_5 : decode cX11_span 5 = .ok (.iload_n 2, 1) := by decide +kernel
theorem dX11_span_6 : decode cX11_span 6 = .ok (.i2l, 1) := by decide +kernel
theorem dX11_span_7 : decode cX11_span 7 = .ok (.lconst 0, 1) := by decide +kernel
theorem dX11_span_8 : decode cX11_span 8 = .ok (.ldc2_w 113, 3) := by decide +kernel
theorem dX11_span_11 : decode cX11_span 11 = .ok (.invokestatic 93, 3) := by decide +kernel
theorem dX11_span_14 : decode cX11_span 14 = .ok (.invokestatic 115, 3) := by decide +kernel
theorem dX11_span_17 : decode cX11_span 17 = .ok (.iload_n 3, 1) := by decide +kernel
theorem dX11_span_18 : decode cX11_span 18 = .ok (.i2l, 1) := by decide +kernel
theorem dX11_span_19 : decode cX11_span 19 = .ok (.lconst 0, 1) := by decide +kernel
theorem dX11_span_20 : decode cX11_span 20 = .ok (.ldc2_w 118, 3) := by decide +kernel
theorem dX11_span_23 : decode cX11_span 23 = .ok (.invokestatic 93, 3) := by decide +kernel
theorem dX11_span_26 : decode cX11_span 26 = .ok (.ifCond .eq 21, 3) := by decide +kernel
theorem dX11_span_29 : decode cX11_span 29 = .ok (.iload 4, 2) := by decide +kernel
theorem dX11_span_31 : decode cX11_span 31 = .ok (.i2l, 1) := by decide +kernel
theorem dX11_span_32 : decode cX11_span 32 = .ok (.iload_n 3, 1) := by decide +kernel
theorem dX11_span_33 : decode cX11_span 33 = .ok (.i2l, 1) := by decide +kernel
theorem dX11_span_34 : decode cX11_span 34 = .ok (.ldc2_w 118, 3) := by decide +kernel
theorem dX11_span_37 : decode cX11_span 37 = .ok (.invokestatic 93, 3) := by decide +kernel
theorem dX11_span_40 : decode cX11_span 40 = .ok (.ifCond .eq 7, 3) := by decide +kernel
theorem dX11_span_43 : decode cX11_span 43 = .ok (.iconst 1, 1) := by decide +kernel
theorem dX11_span_44 : decode cX11_span 44 = .ok (.goto 4, 3) := by decide +kernel
theorem dX11_span_47 : decode cX11_span 47 = .ok (.iconst 0, 1) := by decide +kernel
theorem dX11_span_48 : decode cX11_span 48 = .ok (.invokestatic 97, 3) := by decide +kernel
theorem dX11_span_51 : decode cX11_span 51 = .ok (.aload_n 0, 1) := by decide +kernel
theorem dX11_span_52 : decode cX11_span 52 = .ok (.getfield 10, 3) := by decide +kernel
theorem dX11_span_55 : decode cX11_span 55 = .ok (.getfield 39, 3) := by decide +kernel
theorem dX11_span_58 : decode cX11_span 58 = .ok (.getfield 120, 3) := by decide +kernel
theorem dX11_span_61 : decode cX11_span 61 = .ok (.iload_n 1, 1) := by decide +kernel
theorem dX11_span_62 : decode cX11_span 62 = .ok (.iconst 3, 1) := by decide +kernel
theorem dX11_span_63 : decode cX11_span 63 = .ok (.imul, 1) := by decide +kernel
theorem dX11_span_64 : decode cX11_span 64 = .ok (.iload_n 2, 1) := by decide +kernel
theorem dX11_span_65 : decode cX11_span 65 = .ok (.iadd, 1) := by decide +kernel
theorem dX11_span_66 : decode cX11_span 66 = .ok (.iload_n 3, 1) := by decide +kernel
theorem dX11_span_67 : decode cX11_span 67 = .ok (.iastore, 1) := by decide +kernel
theorem dX11_span_68 : decode cX11_span 68 = .ok (.aload_n 0, 1) := by decide +kernel
theorem dX11_span_69 : decode cX11_span 69 = .ok (.getfield 10, 3) := by decide +kernel
theorem dX11_span_72 : decode cX11_span 72 = .ok (.getfield 39, 3) := by decide +kernel
theorem dX11_span_75 : decode cX11_span 75 = .ok (.getfield 124, 3) := by decide +kernel
theorem dX11_span_78 : decode cX11_span 78 = .ok (.iload_n 1, 1) := by decide +kernel
theorem dX11_span_79 : decode cX11_span 79 = .ok (.iconst 3, 1) := by decide +kernel
theorem dX11_span_80 : decode cX11_span 80 = .ok (.imul, 1) := by decide +kernel
theorem dX11_span_81 : decode cX11_span 81 = .ok (.iload_n 2, 1) := by decide +kernel
theorem dX11_span_82 : decode cX11_span 82 = .ok (.iadd, 1) := by decide +kernel
theorem dX11_span_83 : decode cX11_span 83 = .ok (.iload 4, 2) := by decide +kernel
theorem dX11_span_85 : decode cX11_span 85 = .ok (.iastore, 1) := by decide +kernel
theorem dX11_span_86 : decode cX11_span 86 = .ok (.return_, 1) := by decide +kernel
theorem dX11_wear_0 : decode cX11_wear 0 = .ok (.aload_n 0, 1) := by decide +kernel
theorem dX11_wear_1 : decode cX11_wear 1 = .ok (.iload_n 1, 1) := by decide +kernel
theorem dX11_wear_2 : decode cX11_wear 2 = .ok (.invokevirtual 109, 3) := by decide +kernel
theorem dX11_wear_5 : decode cX11_wear 5 = .ok (.iload_n 2, 1) := by decide +kernel
theorem dX11_wear_6 : decode cX11_wear 6 = .ok (.i2l, 1) := by decide +kernel
theorem dX11_wear_7 : decode cX11_wear 7 = .ok (.lconst 0, 1) := by decide +kernel
theorem dX11_wear_8 : decode cX11_wear 8 = .ok (.ldc2_w 127, 3) := by decide +kernel
theorem dX11_wear_11 : decode cX11_wear 11 = .ok (.invokestatic 93, 3) := by decide +kernel
theorem dX11_wear_14 : decode cX11_wear 14 = .ok (.invokestatic 97, 3) := by decide +kernel
theorem dX11_wear_17 : decode cX11_wear 17 = .ok (.aload_n 0, 1) := by decide +kernel
theorem dX11_wear_18 : decode cX11_wear 18 = .ok (.getfield 10, 3) := by decide +kernel
theorem dX11_wear_21 : decode cX11_wear 21 = .ok (.getfield 39, 3) := by decide +kernel
theorem dX11_wear_24 : decode cX11_wear 24 = .ok (.getfield 129, 3) := by decide +kernel
theorem dX11_wear_27 : decode cX11_wear 27 = .ok (.iload_n 1, 1) := by decide +kernel
theorem dX11_wear_28 : decode cX11_wear 28 = .ok (.iload_n 2, 1) := by decide +kernel
theorem dX11_wear_29 : decode cX11_wear 29 = .ok (.invokestatic 132, 3) := by decide +kernel
theorem dX11_wear_32 : decode cX11_wear 32 = .ok (.ireturn, 1) := by decide +kernel
theorem dX11_flow_0 : decode cX11_flow 0 = .ok (.aload_n 0, 1) := by decide +kernel
theorem dX11_flow_1 : decode cX11_flow 1 = .ok (.iload_n 1, 1) := by decide +kernel
theorem dX11_flow_2 : decode cX11_flow 2 = .ok (.invokevirtual 109, 3) := by decide +kernel
theorem dX11_flow_5 : decode cX11_flow 5 = .ok (.iload_n 2, 1) := by decide +kernel
theorem dX11_flow_6 : decode cX11_flow 6 = .ok (.i2l, 1) := by decide +kernel
theorem dX11_flow_7 : decode cX11_flow 7 = .ok (.lconst 0, 1) := by decide +kernel
theorem dX11_flow_8 : decode cX11_flow 8 = .ok (.ldc2_w 136, 3) := by decide +kernel
theorem dX11_flow_11 : decode cX11_flow 11 = .ok (.invokestatic 93, 3) := by decide +kernel
theorem dX11_flow_14 : decode cX11_flow 14 = .ok (.invokestatic 97, 3) := by decide +kernel
theorem dX11_flow_17 : decode cX11_flow 17 = .ok (.aload_n 0, 1) := by decide +kernel
theorem dX11_flow_18 : decode cX11_flow 18 = .ok (.getfield 10, 3) := by decide +kernel
theorem dX11_flow_21 : decode cX11_flow 21 = .ok (.getfield 39, 3) := by decide +kernel
theorem dX11_flow_24 : decode cX11_flow 24 = .ok (.getfield 138, 3) := by decide +kernel
theorem dX11_flow_27 : decode cX11_flow 27 = .ok (.iload_n 1, 1) := by decide +kernel
theorem dX11_flow_28 : decode cX11_flow 28 = .ok (.iload_n 2, 1) := by decide +kernel
theorem dX11_flow_29 : decode cX11_flow 29 = .ok (.invokestatic 132, 3) := by decide +kernel
theorem dX11_flow_32 : decode cX11_flow 32 = .ok (.ireturn, 1) := by decide +kernel
theorem dX11_set_0 : decode cX11_set 0 = .ok (.iload_n 1, 1) := by decide +kernel
theorem dX11_set_1 : decode cX11_set 1 = .ok (.i2l, 1) := by decide +kernel
theorem dX11_set_2 : decode cX11_set 2 = .ok (.lconst 0, 1) := by decide +kernel
theorem dX11_set_3 : decode cX11_set 3 = .ok (.ldc2_w 141, 3) := by decide +kernel
theorem dX11_set_6 : decode cX11_set 6 = .ok (.invokestatic 93, 3) := by decide +kernel
theorem dX11_set_9 : decode cX11_set 9 = .ok (.invokestatic 115, 3) := by decide +kernel
theorem dX11_set_12 : decode cX11_set 12 = .ok (.iload_n 1, 1) := by decide +kernel
theorem dX11_set_13 : decode cX11_set 13 = .ok (.tableswitch 74 0 2 #[27, 42, 57], 27) := by decide +kernel
theorem dX11_set_40 : decode cX11_set 40 = .ok (.iload_n 2, 1) := by decide +kernel
theorem dX11_set_41 : decode cX11_set 41 = .ok (.i2l, 1) := by decide +kernel
theorem dX11_set_42 : decode cX11_set 42 = .ok (.lconst 0, 1) := by decide +kernel
theorem dX11_set_43 : decode cX11_set 43 = .ok (.ldc2_w 101, 3) := by decide +kernel
theorem dX11_set_46 : decode cX11_set 46 = .ok (.invokestatic 93, 3) := by decide +kernel
theorem dX11_set_49 : decode cX11_set 49 = .ok (.invokestatic 97, 3) := by decide +kernel
theorem dX11_set_52 : decode cX11_set 52 = .ok (.goto 47, 3) := by decide +kernel
theorem dX11_set_55 : decode cX11_set 55 = .ok (.iload_n 2, 1) := by decide +kernel
theorem dX11_set_56 : decode cX11_set 56 = .ok (.i2l, 1) := by decide +kernel
theorem dX11_set_57 : decode cX11_set 57 = .ok (.lconst 0, 1) := by decide +kernel
theorem dX11_set_58 : decode cX11_set 58 = .ok (.ldc2_w 143, 3) := by decide +kernel
theorem dX11_set_61 : decode cX11_set 61 = .ok (.invokestatic 93, 3) := by decide +kernel
theorem dX11_set_64 : decode cX11_set 64 = .ok (.invokestatic 97, 3) := by decide +kernel
theorem dX11_set_67 : decode cX11_set 67 = .ok (.goto 32, 3) := by decide +kernel
theorem dX11_set_70 : decode cX11_set 70 = .ok (.iload_n 2, 1) := by decide +kernel
theorem dX11_set_71 : decode cX11_set 71 = .ok (.i2l, 1) := by decide +kernel
theorem dX11_set_72 : decode cX11_set 72 = .ok (.ldc2_w 145, 3) := by decide +kernel
theorem dX11_set_75 : decode cX11_set 75 = .ok (.ldc2_w 147, 3) := by decide +kernel
theorem dX11_set_78 : decode cX11_set 78 = .ok (.invokestatic 93, 3) := by decide +kernel
theorem dX11_set_81 : decode cX11_set 81 = .ok (.invokestatic 97, 3) := by decide +kernel
theorem dX11_set_84 : decode cX11_set 84 = .ok (.goto 15, 3) := by decide +kernel
theorem dX11_set_87 : decode cX11_set 87 = .ok (.iload_n 2, 1) := by decide +kernel
theorem dX11_set_88 : decode cX11_set 88 = .ok (.i2l, 1) := by decide +kernel
theorem dX11_set_89 : decode cX11_set 89 = .ok (.lconst 0, 1) := by decide +kernel
theorem dX11_set_90 : decode cX11_set 90 = .ok (.ldc2_w 101, 3) := by decide +kernel
theorem dX11_set_93 : decode cX11_set 93 = .ok (.invokestatic 93, 3) := by decide +kernel
theorem dX11_set_96 : decode cX11_set 96 = .ok (.invokestatic 97, 3) := by decide +kernel
theorem dX11_set_99 : decode cX11_set 99 = .ok (.aload_n 0, 1) := by decide +kernel
theorem dX11_set_100 : decode cX11_set 100 = .ok (.getfield 10, 3) := by decide +kernel
theorem dX11_set_103 : decode cX11_set 103 = .ok (.getfield 39, 3) := by decide +kernel
theorem dX11_set_106 : decode cX11_set 106 = .ok (.getfield 149, 3) := by decide +kernel
theorem dX11_set_109 : decode cX11_set 109 = .ok (.iload_n 1, 1) := by decide +kernel
theorem dX11_set_110 : decode cX11_set 110 = .ok (.iload_n 2, 1) := by decide +kernel
theorem dX11_set_111 : decode cX11_set 111 = .ok (.invokestatic 132, 3) := by decide +kernel
theorem dX11_set_114 : decode cX11_set 114 = .ok (.ireturn, 1) := by decide +kernel
theorem dX11_good_0 : decode cX11_good 0 = .ok (.aload_n 0, 1) := by decide +kernel
theorem dX11_good_1 : decode cX11_good 1 = .ok (.iload_n 1, 1) := by decide +kernel
theorem dX11_good_2 : decode cX11_good 2 = .ok (.invokevirtual 109, 3) := by decide +kernel
theorem dX11_good_5 : decode cX11_good 5 = .ok (.aload_n 0, 1) := by decide +kernel
theorem dX11_good_6 : decode cX11_good 6 = .ok (.getfield 10, 3) := by decide +kernel
theorem dX11_good_9 : decode cX11_good 9 = .ok (.getfield 39, 3) := by decide +kernel
theorem dX11_good_12 : decode cX11_good 12 = .ok (.iload_n 1, 1) := by decide +kernel
theorem dX11_good_13 : decode cX11_good 13 = .ok (.invokevirtual 152, 3) := by decide +kernel
theorem dX11_good_16 : decode cX11_good 16 = .ok (.ireturn, 1) := by decide +kernel
theorem dX11_feed_0 : decode cX11_feed 0 = .ok (.aload_n 0, 1) := by decide +kernel
theorem dX11_feed_1 : decode cX11_feed 1 = .ok (.getfield 33, 3) := by decide +kernel
theorem dX11_feed_4 : decode cX11_feed 4 = .ok (.invokevirtual 156, 3) := by decide +kernel
theorem dX11_feed_7 : decode cX11_feed 7 = .ok (.ifCond .ne 5, 3) := by decide +kernel
theorem dX11_feed_10 : decode cX11_feed 10 = .ok (.iconst (-1), 1) := by decide +kernel
theorem dX11_feed_11 : decode cX11_feed 11 = .ok (.ireturn, 1) := by decide +kernel
theorem dX11_feed_12 : decode cX11_feed 12 = .ok (.aload_n 0, 1) := by decide +kernel
theorem dX11_feed_13 : decode cX11_feed 13 = .ok (.getfield 33, 3) := by decide +kernel
theorem dX11_feed_16 : decode cX11_feed 16 = .ok (.iload_n 1, 1) := by decide +kernel
theorem dX11_feed_17 : decode cX11_feed 17 = .ok (.invokevirtual 160, 3) := by decide +kernel
theorem dX11_feed_20 : decode cX11_feed 20 = .ok (.aload_n 0, 1) := by decide +kernel
theorem dX11_feed_21 : decode cX11_feed 21 = .ok (.getfield 33, 3) := by decide +kernel
theorem dX11_feed_24 : decode cX11_feed 24 = .ok (.iload_n 2, 1) := by decide +kernel
theorem dX11_feed_25 : decode cX11_feed 25 = .ok (.invokevirtual 160, 3) := by decide +kernel
theorem dX11_feed_28 : decode cX11_feed 28 = .ok (.aload_n 0, 1) := by decide +kernel
theorem dX11_feed_29 : decode cX11_feed 29 = .ok (.getfield 33, 3) := by decide +kernel
theorem dX11_feed_32 : decode cX11_feed 32 = .ok (.iload_n 3, 1) := by decide +kernel
theorem dX11_feed_33 : decode cX11_feed 33 = .ok (.invokevirtual 160, 3) := by decide +kernel
theorem dX11_feed_36 : decode cX11_feed 36 = .ok (.aload_n 0, 1) := by decide +kernel
theorem dX11_feed_37 : decode cX11_feed 37 = .ok (.getfield 33, 3) := by decide +kernel
theorem dX11_feed_40 : decode cX11_feed 40 = .ok (.iload 4, 2) := by decide +kernel
theorem dX11_feed_42 : decode cX11_feed 42 = .ok (.invokevirtual 160, 3) := by decide +kernel
theorem dX11_feed_45 : decode cX11_feed 45 = .ok (.aload_n 0, 1) := by decide +kernel
theorem dX11_feed_46 : decode cX11_feed 46 = .ok (.getfield 33, 3) := by decide +kernel
theorem dX11_feed_49 : decode cX11_feed 49 = .ok (.iload 5, 2) := by decide +kernel
theorem dX11_feed_51 : decode cX11_feed 51 = .ok (.invokevirtual 160, 3) := by decide +kernel
theorem dX11_feed_54 : decode cX11_feed 54 = .ok (.aload_n 0, 1) := by decide +kernel
theorem dX11_feed_55 : decode cX11_feed 55 = .ok (.getfield 33, 3) := by decide +kernel
theorem dX11_feed_58 : decode cX11_feed 58 = .ok (.getfield 163, 3) := by decide +kernel
theorem dX11_feed_61 : decode cX11_feed 61 = .ok (.ireturn, 1) := by decide +kernel
theorem dX11_text_0 : decode cX11_text 0 = .ok (.iload_n 1, 1) := by decide +kernel
theorem dX11_text_1 : decode cX11_text 1 = .ok (.i2l, 1) := by decide +kernel
theorem dX11_text_2 : decode cX11_text 2 = .ok (.lconst 0, 1) := by decide +kernel
theorem dX11_text_3 : decode cX11_text 3 = .ok (.aload_n 0, 1) := by decide +kernel
theorem dX11_text_4 : decode cX11_text 4 = .ok (.getfield 33, 3) := by decide +kernel
theorem dX11_text_7 : decode cX11_text 7 = .ok (.getfield 163, 3) := by decide +kernel
theorem dX11_text_10 : decode cX11_text 10 = .ok (.i2l, 1) := by decide +kernel
theorem dX11_text_11 : decode cX11_text 11 = .ok (.invokestatic 93, 3) := by decide +kernel
theorem dX11_text_14 : decode cX11_text 14 = .ok (.invokestatic 97, 3) := by decide +kernel
theorem dX11_text_17 : decode cX11_text 17 = .ok (.aload_n 0, 1) := by decide +kernel
theorem dX11_text_18 : decode cX11_text 18 = .ok (.getfield 33, 3) := by decide +kernel
theorem dX11_text_21 : decode cX11_text 21 = .ok (.iload_n 1, 1) := by decide +kernel
theorem dX11_text_22 : decode cX11_text 22 = .ok (.invokevirtual 167, 3) := by decide +kernel
theorem dX11_text_25 : decode cX11_text 25 = .ok (.ifCond .ne 14, 3) := by decide +kernel
theorem dX11_text_28 : decode cX11_text 28 = .ok (.bipush (-10), 2) := by decide +kernel
theorem dX11_text_30 : decode cX11_text 30 = .ok (.aload_n 0, 1) := by decide +kernel
theorem dX11_text_31 : decode cX11_text 31 = .ok (.getfield 33, 3) := by decide +kernel
theorem dX11_text_34 : decode cX11_text 34 = .ok (.getfield 170, 3) := by decide +kernel
theorem dX11_text_37 : decode cX11_text 37 = .ok (.isub, 1) := by decide +kernel
theorem dX11_text_38 : decode cX11_text 38 = .ok (.ireturn, 1) := by decide +kernel
theorem dX11_text_39 : decode cX11_text 39 = .ok (.aload_n 0, 1) := by decide +kernel
theorem dX11_text_40 : decode cX11_text 40 = .ok (.getfield 10, 3) := by decide +kernel
theorem dX11_text_43 : decode cX11_text 43 = .ok (.getfield 43, 3) := by decide +kernel
theorem dX11_text_46 : decode cX11_text 46 = .ok (.aload_n 0, 1) := by decide +kernel
theorem dX11_text_47 : decode cX11_text 47 = .ok (.getfield 33, 3) := by decide +kernel
theorem dX11_text_50 : decode cX11_text 50 = .ok (.getfield 173, 3) := by decide +kernel
theorem dX11_text_53 : decode cX11_text 53 = .ok (.invokevirtual 176, 3) := by decide +kernel
theorem dX11_text_56 : decode cX11_text 56 = .ok (.aload_n 0, 1) := by decide +kernel
theorem dX11_text_57 : decode cX11_text 57 = .ok (.getfield 10, 3) := by decide +kernel
theorem dX11_text_60 : decode cX11_text 60 = .ok (.getfield 43, 3) := by decide +kernel
theorem dX11_text_63 : decode cX11_text 63 = .ok (.getfield 182, 3) := by decide +kernel
theorem dX11_text_66 : decode cX11_text 66 = .ok (.ireturn, 1) := by decide +kernel
theorem dX11_fault_0 : decode cX11_fault 0 = .ok (.iload_n 1, 1) := by decide +kernel
theorem dX11_fault_1 : decode cX11_fault 1 = .ok (.ifCond .ne 11, 3) := by decide +kernel
theorem dX11_fault_4 : decode cX11_fault 4 = .ok (.aload_n 0, 1) := by decide +kernel
theorem dX11_fault_5 : decode cX11_fault 5 = .ok (.getfield 33, 3) := by decide +kernel
theorem dX11_fault_8 : decode cX11_fault 8 = .ok (.getfield 170, 3) := by decide +kernel
theorem dX11_fault_11 : decode cX11_fault 11 = .ok (.ireturn, 1) := by decide +kernel
theorem dX11_fault_12 : decode cX11_fault 12 = .ok (.iload_n 1, 1) := by decide +kernel
theorem dX11_fault_13 : decode cX11_fault 13 = .ok (.iconst 1, 1) := by decide +kernel
theorem dX11_fault_14 : decode cX11_fault 14 = .ok (.if_icmp .ne 13, 3) := by decide +kernel
theorem dX11_fault_17 : decode cX11_fault 17 = .ok (.aload_n 0, 1) := by decide +kernel
theorem dX11_fault_18 : decode cX11_fault 18 = .ok (.getfield 33, 3) := by decide +kernel
theorem dX11_fault_21 : decode cX11_fault 21 = .ok (.getfield 185, 3) := by decide +kernel
theorem dX11_fault_24 : decode cX11_fault 24 = .ok (.goto 4, 3) := by decide +kernel
theorem dX11_fault_27 : decode cX11_fault 27 = .ok (.iconst (-1), 1) := by decide +kernel
theorem dX11_fault_28 : decode cX11_fault 28 = .ok (.ireturn, 1) := by decide +kernel
theorem dX11_gate_0 : decode cX11_gate 0 = .ok (.aload_n 0, 1) := by decide +kernel
theorem dX11_gate_1 : decode cX11_gate 1 = .ok (.iload_n 1, 1) := by decide +kernel
theorem dX11_gate_2 : decode cX11_gate 2 = .ok (.invokevirtual 188, 3) := by decide +kernel
theorem dX11_gate_5 : decode cX11_gate 5 = .ok (.iload_n 2, 1) := by decide +kernel
theorem dX11_gate_6 : decode cX11_gate 6 = .ok (.i2l, 1) := by decide +kernel
theorem dX11_gate_7 : decode cX11_gate 7 = .ok (.lconst 0, 1) := by decide +kernel
theorem dX11_gate_8 : decode cX11_gate 8 = .ok (.ldc2_w 113, 3) := by decide +kernel
theorem dX11_gate_11 : decode cX11_gate 11 = .ok (.invokestatic 93, 3) := by decide +kernel
theorem dX11_gate_14 : decode cX11_gate 14 = .ok (.invokestatic 97, 3) := by decide +kernel
theorem dX11_gate_17 : decode cX11_gate 17 = .ok (.iload_n 2, 1) := by decide +kernel
theorem dX11_gate_18 : decode cX11_gate 18 = .ok (.ifCond .ne 16, 3) := by decide +kernel
theorem dX11_gate_21 : decode cX11_gate 21 = .ok (.aload_n 0, 1) := by decide +kernel
theorem dX11_gate_22 : decode cX11_gate 22 = .ok (.getfield 10, 3) := by decide +kernel
theorem dX11_gate_25 : decode cX11_gate 25 = .ok (.getfield 43, 3) := by decide +kernel
theorem dX11_gate_28 : decode cX11_gate 28 = .ok (.getfield 191, 3) := by decide +kernel
theorem dX11_gate_31 : decode cX11_gate 31 = .ok (.iload_n 1, 1) := by decide +kernel
theorem dX11_gate_32 : decode cX11_gate 32 = .ok (.iaload, 1) := by decide +kernel
theorem dX11_gate_33 : decode cX11_gate 33 = .ok (.ireturn, 1) := by decide +kernel
theorem dX11_gate_34 : decode cX11_gate 34 = .ok (.iload_n 2, 1) := by decide +kernel
theorem dX11_gate_35 : decode cX11_gate 35 = .ok (.iconst 1, 1) := by decide +kernel
theorem dX11_gate_36 : decode cX11_gate 36 = .ok (.if_icmp .ne 18, 3) := by decide +kernel
theorem dX11_gate_39 : decode cX11_gate 39 = .ok (.aload_n 0, 1) := by decide +kernel
theorem dX11_gate_40 : decode cX11_gate 40 = .ok (.getfield 10, 3) := by decide +kernel
theorem dX11_gate_43 : decode cX11_gate 43 = .ok (.getfield 43, 3) := by decide +kernel
theorem dX11_gate_46 : decode cX11_gate 46 = .ok (.getfield 194, 3) := by decide +kernel
theorem dX11_gate_49 : decode cX11_gate 49 = .ok (.iload_n 1, 1) := by decide +kernel
theorem dX11_gate_50 : decode cX11_gate 50 = .ok (.iaload, 1) := by decide +kernel
theorem dX11_gate_51 : decode cX11_gate 51 = .ok (.goto 15, 3) := by decide +kernel
theorem dX11_gate_54 : decode cX11_gate 54 = .ok (.aload_n 0, 1) := by decide +kernel
theorem dX11_gate_55 : decode cX11_gate 55 = .ok (.getfield 10, 3) := by decide +kernel
theorem dX11_gate_58 : decode cX11_gate 58 = .ok (.getfield 43, 3) := by decide +kernel
theorem dX11_gate_61 : decode cX11_gate 61 = .ok (.getfield 195, 3) := by decide +kernel
theorem dX11_gate_64 : decode cX11_gate 64 = .ok (.iload_n 1, 1) := by decide +kernel
theorem dX11_gate_65 : decode cX11_gate 65 = .ok (.iaload, 1) := by decide +kernel
theorem dX11_gate_66 : decode cX11_gate 66 = .ok (.ireturn, 1) := by decide +kernel
theorem dX11_taken_0 : decode cX11_taken 0 = .ok (.iload_n 1, 1) := by decide +kernel
theorem dX11_taken_1 : decode cX11_taken 1 = .ok (.i2l, 1) := by decide +kernel
theorem dX11_taken_2 : decode cX11_taken 2 = .ok (.lconst 0, 1) := by decide +kernel
theorem dX11_taken_3 : decode cX11_taken 3 = .ok (.ldc2_w 118, 3) := by decide +kernel
theorem dX11_taken_6 : decode cX11_taken 6 = .ok (.invokestatic 93, 3) := by decide +kernel
theorem dX11_taken_9 : decode cX11_taken 9 = .ok (.invokestatic 97, 3) := by decide +kernel
theorem dX11_taken_12 : decode cX11_taken 12 = .ok (.iload_n 2, 1) := by decide +kernel
theorem dX11_taken_13 : decode cX11_taken 13 = .ok (.i2l, 1) := by decide +kernel
theorem dX11_taken_14 : decode cX11_taken 14 = .ok (.lconst 0, 1) := by decide +kernel
theorem dX11_taken_15 : decode cX11_taken 15 = .ok (.ldc2_w 118, 3) := by decide +kernel
theorem dX11_taken_18 : decode cX11_taken 18 = .ok (.invokestatic 93, 3) := by decide +kernel
theorem dX11_taken_21 : decode cX11_taken 21 = .ok (.invokestatic 97, 3) := by decide +kernel
theorem dX11_taken_24 : decode cX11_taken 24 = .ok (.iload_n 3, 1) := by decide +kernel
theorem dX11_taken_25 : decode cX11_taken 25 = .ok (.i2l, 1) := by decide +kernel
theorem dX11_taken_26 : decode cX11_taken 26 = .ok (.lconst 0, 1) := by decide +kernel
theorem dX11_taken_27 : decode cX11_taken 27 = .ok (.ldc2_w 118, 3) := by decide +kernel
theorem dX11_taken_30 : decode cX11_taken 30 = .ok (.invokestatic 93, 3) := by decide +kernel
theorem dX11_taken_33 : decode cX11_taken 33 = .ok (.invokestatic 97, 3) := by decide +kernel
theorem dX11_taken_36 : decode cX11_taken 36 = .ok (.aload_n 0, 1) := by decide +kernel
theorem dX11_taken_37 : decode cX11_taken 37 = .ok (.getfield 50, 3) := by decide +kernel
theorem dX11_taken_40 : decode cX11_taken 40 = .ok (.iload_n 1, 1) := by decide +kernel
theorem dX11_taken_41 : decode cX11_taken 41 = .ok (.iload_n 2, 1) := by decide +kernel
theorem dX11_taken_42 : decode cX11_taken 42 = .ok (.iload_n 3, 1) := by decide +kernel
theorem dX11_taken_43 : decode cX11_taken 43 = .ok (.invokevirtual 196, 3) := by decide +kernel
theorem dX11_taken_46 : decode cX11_taken 46 = .ok (.ireturn, 1) := by decide +kernel
theorem dX11_coins_0 : decode cX11_coins 0 = .ok (.aload_n 0, 1) := by decide +kernel
theorem dX11_coins_1 : decode cX11_coins 1 = .ok (.iload_n 1, 1) := by decide +kernel
theorem dX11_coins_2 : decode cX11_coins 2 = .ok (.invokevirtual 109, 3) := by decide +kernel
theorem dX11_coins_5 : decode cX11_coins 5 = .ok (.aload_n 0, 1) := by decide +kernel
theorem dX11_coins_6 : decode cX11_coins 6 = .ok (.getfield 10, 3) := by decide +kernel
theorem dX11_coins_9 : decode cX11_coins 9 = .ok (.getfield 39, 3) := by decide +kernel
theorem dX11_coins_12 : decode cX11_coins 12 = .ok (.iload_n 1, 1) := by decide +kernel
theorem dX11_coins_13 : decode cX11_coins 13 = .ok (.invokevirtual 199, 3) := by decide +kernel
theorem dX11_coins_16 : decode cX11_coins 16 = .ok (.lreturn, 1) := by decide +kernel
theorem dX11_passes_0 : decode cX11_passes 0 = .ok (.aload_n 0, 1) := by decide +kernel
theorem dX11_passes_1 : decode cX11_passes 1 = .ok (.iload_n 1, 1) := by decide +kernel
theorem dX11_passes_2 : decode cX11_passes 2 = .ok (.invokevirtual 109, 3) := by decide +kernel
theorem dX11_passes_5 : decode cX11_passes 5 = .ok (.iload_n 2, 1) := by decide +kernel
theorem dX11_passes_6 : decode cX11_passes 6 = .ok (.iconst (-1), 1) := by decide +kernel
theorem dX11_passes_7 : decode cX11_passes 7 = .ok (.if_icmp .eq 17, 3) := by decide +kernel
theorem dX11_passes_10 : decode cX11_passes 10 = .ok (.aload_n 0, 1) := by decide +kernel
theorem dX11_passes_11 : decode cX11_passes 11 = .ok (.getfield 10, 3) := by decide +kernel
theorem dX11_passes_14 : decode cX11_passes 14 = .ok (.getfield 39, 3) := by decide +kernel
theorem dX11_passes_17 : decode cX11_passes 17 = .ok (.iload_n 2, 1) := by decide +kernel
theorem dX11_passes_18 : decode cX11_passes 18 = .ok (.invokevirtual 203, 3) := by decide +kernel
theorem dX11_passes_21 : decode cX11_passes 21 = .ok (.ifCond .eq 7, 3) := by decide +kernel
theorem dX11_passes_24 : decode cX11_passes 24 = .ok (.iconst 1, 1) := by decide +kernel
theorem dX11_passes_25 : decode cX11_passes 25 = .ok (.goto 4, 3) := by decide +kernel
theorem dX11_passes_28 : decode cX11_passes 28 = .ok (.iconst 0, 1) := by decide +kernel
theorem dX11_passes_29 : decode cX11_passes 29 = .ok (.invokestatic 115, 3) := by decide +kernel
theorem dX11_passes_32 : decode cX11_passes 32 = .ok (.aload_n 0, 1) := by decide +kernel
theorem dX11_passes_33 : decode cX11_passes 33 = .ok (.getfield 50, 3) := by decide +kernel
theorem dX11_passes_36 : decode cX11_passes 36 = .ok (.invokevirtual 206, 3) := by decide +kernel
theorem dX11_passes_39 : decode cX11_passes 39 = .ok (.aload_n 0, 1) := by decide +kernel
theorem dX11_passes_40 : decode cX11_passes 40 = .ok (.getfield 50, 3) := by decide +kernel
theorem dX11_passes_43 : decode cX11_passes 43 = .ok (.iload_n 1, 1) := by decide +kernel
theorem dX11_passes_44 : decode cX11_passes 44 = .ok (.invokevirtual 209, 3) := by decide +kernel
theorem dX11_passes_47 : decode cX11_passes 47 = .ok (.aload_n 0, 1) := by decide +kernel
theorem dX11_passes_48 : decode cX11_passes 48 = .ok (.getfield 50, 3) := by decide +kernel
theorem dX11_passes_51 : decode cX11_passes 51 = .ok (.getfield 212, 3) := by decide +kernel
theorem dX11_passes_54 : decode cX11_passes 54 = .ok (.iload_n 2, 1) := by decide +kernel
theorem dX11_passes_55 : decode cX11_passes 55 = .ok (.iconst 1, 1) := by decide +kernel
theorem dX11_passes_56 : decode cX11_passes 56 = .ok (.iadd, 1) := by decide +kernel
theorem dX11_passes_57 : decode cX11_passes 57 = .ok (.laload, 1) := by decide +kernel
theorem dX11_passes_58 : decode cX11_passes 58 = .ok (.lreturn, 1) := by decide +kernel
theorem dX11_wrong_0 : decode cX11_wrong 0 = .ok (.aload_n 0, 1) := by decide +kernel
theorem dX11_wrong_1 : decode cX11_wrong 1 = .ok (.iload_n 1, 1) := by decide +kernel
theorem dX11_wrong_2 : decode cX11_wrong 2 = .ok (.invokevirtual 109, 3) := by decide +kernel
theorem dX11_wrong_5 : decode cX11_wrong 5 = .ok (.aload_n 0, 1) := by decide +kernel
theorem dX11_wrong_6 : decode cX11_wrong 6 = .ok (.getfield 50, 3) := by decide +kernel
theorem dX11_wrong_9 : decode cX11_wrong 9 = .ok (.invokevirtual 206, 3) := by decide +kernel
theorem dX11_wrong_12 : decode cX11_wrong 12 = .ok (.aload_n 0, 1) := by decide +kernel
theorem dX11_wrong_13 : decode cX11_wrong 13 = .ok (.getfield 50, 3) := by decide +kernel
theorem dX11_wrong_16 : decode cX11_wrong 16 = .ok (.iload_n 1, 1) := by decide +kernel
theorem dX11_wrong_17 : decode cX11_wrong 17 = .ok (.invokevirtual 216, 3) := by decide +kernel
theorem dX11_wrong_20 : decode cX11_wrong 20 = .ok (.lreturn, 1) := by decide +kernel
theorem dX11_loss_0 : decode cX11_loss 0 = .ok (.aload_n 0, 1) := by decide +kernel
theorem dX11_loss_1 : decode cX11_loss 1 = .ok (.iload_n 1, 1) := by decide +kernel
theorem dX11_loss_2 : decode cX11_loss 2 = .ok (.iload_n 2, 1) := by decide +kernel
theorem dX11_loss_3 : decode cX11_loss 3 = .ok (.iload_n 3, 1) := by decide +kernel
theorem dX11_loss_4 : decode cX11_loss 4 = .ok (.invokevirtual 219, 3) := by decide +kernel
theorem dX11_loss_7 : decode cX11_loss 7 = .ok (.aload_n 0, 1) := by decide +kernel
theorem dX11_loss_8 : decode cX11_loss 8 = .ok (.getfield 50, 3) := by decide +kernel
theorem dX11_loss_11 : decode cX11_loss 11 = .ok (.invokevirtual 206, 3) := by decide +kernel
theorem dX11_loss_14 : decode cX11_loss 14 = .ok (.aload_n 0, 1) := by decide +kernel
theorem dX11_loss_15 : decode cX11_loss 15 = .ok (.getfield 50, 3) := by decide +kernel
theorem dX11_loss_18 : decode cX11_loss 18 = .ok (.iload_n 1, 1) := by decide +kernel
theorem dX11_loss_19 : decode cX11_loss 19 = .ok (.iload_n 2, 1) := by decide +kernel
theorem dX11_loss_20 : decode cX11_loss 20 = .ok (.iload_n 3, 1) := by decide +kernel
theorem dX11_loss_21 : decode cX11_loss 21 = .ok (.invokevirtual 223, 3) := by decide +kernel
theorem dX11_loss_24 : decode cX11_loss 24 = .ok (.lreturn, 1) := by decide +kernel
theorem dX11_best_0 : decode cX11_best 0 = .ok (.aload_n 0, 1) := by decide +kernel
theorem dX11_best_1 : decode cX11_best 1 = .ok (.iload_n 1, 1) := by decide +kernel
theorem dX11_best_2 : decode cX11_best 2 = .ok (.invokevirtual 188, 3) := by decide +kernel
theorem dX11_best_5 : decode cX11_best 5 = .ok (.iload_n 2, 1) := by decide +kernel
theorem dX11_best_6 : decode cX11_best 6 = .ok (.i2l, 1) := by decide +kernel
theorem dX11_best_7 : decode cX11_best 7 = .ok (.lconst 0, 1) := by decide +kernel
theorem dX11_best_8 : decode cX11_best 8 = .ok (.ldc2_w 113, 3) := by decide +kernel
theorem dX11_best_11 : decode cX11_best 11 = .ok (.invokestatic 93, 3) := by decide +kernel
theorem dX11_best_14 : decode cX11_best 14 = .ok (.invokestatic 97, 3) := by decide +kernel
theorem dX11_best_17 : decode cX11_best 17 = .ok (.aload_n 0, 1) := by decide +kernel
theorem dX11_best_18 : decode cX11_best 18 = .ok (.getfield 50, 3) := by decide +kernel
theorem dX11_best_21 : decode cX11_best 21 = .ok (.iload_n 1, 1) := by decide +kernel
theorem dX11_best_22 : decode cX11_best 22 = .ok (.invokevirtual 227, 3) := by decide +kernel
theorem dX11_best_25 : decode cX11_best 25 = .ok (.iload_n 2, 1) := by decide +kernel
theorem dX11_best_26 : decode cX11_best 26 = .ok (.ifCond .ne 12, 3) := by decide +kernel
theorem dX11_best_29 : decode cX11_best 29 = .ok (.aload_n 0, 1) := by decide +kernel
theorem dX11_best_30 : decode cX11_best 30 = .ok (.getfield 50, 3) := by decide +kernel
theorem dX11_best_33 : decode cX11_best 33 = .ok (.getfield 230, 3) := by decide +kernel
theorem dX11_best_36 : decode cX11_best 36 = .ok (.i2l, 1) := by decide +kernel
theorem dX11_best_37 : decode cX11_best 37 = .ok (.lreturn, 1) := by decide +kernel
theorem dX11_best_38 : decode cX11_best 38 = .ok (.iload_n 2, 1) := by decide +kernel
theorem dX11_best_39 : decode cX11_best 39 = .ok (.iconst 1, 1) := by decide +kernel
theorem dX11_best_40 : decode cX11_best 40 = .ok (.if_icmp .ne 14, 3) := by decide +kernel
theorem dX11_best_43 : decode cX11_best 43 = .ok (.aload_n 0, 1) := by decide +kernel
theorem dX11_best_44 : decode cX11_best 44 = .ok (.getfield 50, 3) := by decide +kernel
theorem dX11_best_47 : decode cX11_best 47 = .ok (.getfield 233, 3) := by decide +kernel
theorem dX11_best_50 : decode cX11_best 50 = .ok (.i2l, 1) := by decide +kernel
theorem dX11_best_51 : decode cX11_best 51 = .ok (.goto 10, 3) := by decide +kernel
theorem dX11_best_54 : decode cX11_best 54 = .ok (.aload_n 0, 1) := by decide +kernel
theorem dX11_best_55 : decode cX11_best 55 = .ok (.getfield 50, 3) := by decide +kernel
theorem dX11_best_58 : decode cX11_best 58 = .ok (.getfield 236, 3) := by decide +kernel
theorem dX11_best_61 : decode cX11_best 61 = .ok (.lreturn, 1) := by decide +kernel
theorem dX11_move_0 : decode cX11_move 0 = .ok (.aload_n 0, 1) := by decide +kernel
theorem dX11_move_1 : decode cX11_move 1 = .ok (.iload_n 1, 1) := by decide +kernel
theorem dX11_move_2 : decode cX11_move 2 = .ok (.iload_n 2, 1) := by decide +kernel
theorem dX11_move_3 : decode cX11_move 3 = .ok (.iload_n 3, 1) := by decide +kernel
theorem dX11_move_4 : decode cX11_move 4 = .ok (.invokevirtual 219, 3) := by decide +kernel
theorem dX11_move_7 : decode cX11_move 7 = .ok (.aload_n 0, 1) := by decide +kernel
theorem dX11_move_8 : decode cX11_move 8 = .ok (.getfield 10, 3) := by decide +kernel
theorem dX11_move_11 : decode cX11_move 11 = .ok (.getfield 43, 3) := by decide +kernel
theorem dX11_move_14 : decode cX11_move 14 = .ok (.getfield 194, 3) := by decide +kernel
theorem dX11_move_17 : decode cX11_move 17 = .ok (.iload_n 1, 1) := by decide +kernel
theorem dX11_move_18 : decode cX11_move 18 = .ok (.iaload, 1) := by decide +kernel
theorem dX11_move_19 : decode cX11_move 19 = .ok (.iload_n 2, 1) := by decide +kernel
theorem dX11_move_20 : decode cX11_move 20 = .ok (.iadd, 1) := by decide +kernel
theorem dX11_move_21 : decode cX11_move 21 = .ok (.invokestatic 240, 3) := by decide +kernel
theorem dX11_move_24 : decode cX11_move 24 = .ok (.istore 4, 2) := by decide +kernel
theorem dX11_move_26 : decode cX11_move 26 = .ok (.aload_n 0, 1) := by decide +kernel
theorem dX11_move_27 : decode cX11_move 27 = .ok (.getfield 10, 3) := by decide +kernel
theorem dX11_move_30 : decode cX11_move 30 = .ok (.getfield 43, 3) := by decide +kernel
theorem dX11_move_33 : decode cX11_move 33 = .ok (.getfield 195, 3) := by decide +kernel
theorem dX11_move_36 : decode cX11_move 36 = .ok (.iload_n 1, 1) := by decide +kernel
theorem dX11_move_37 : decode cX11_move 37 = .ok (.iaload, 1) := by decide +kernel
theorem dX11_move_38 : decode cX11_move 38 = .ok (.iload_n 3, 1) := by decide +kernel
theorem dX11_move_39 : decode cX11_move 39 = .ok (.iadd, 1) := by decide +kernel
theorem dX11_move_40 : decode cX11_move 40 = .ok (.invokestatic 240, 3) := by decide +kernel
theorem dX11_move_43 : decode cX11_move 43 = .ok (.istore 5, 2) := by decide +kernel
theorem dX11_move_45 : decode cX11_move 45 = .ok (.iload 4, 2) := by decide +kernel
theorem dX11_move_47 : decode cX11_move 47 = .ok (.iload 5, 2) := by decide +kernel
theorem dX11_move_49 : decode cX11_move 49 = .ok (.if_icmp .le 5, 3) := by decide +kernel
theorem dX11_move_52 : decode cX11_move 52 = .ok (.iconst 0, 1) := by decide +kernel
theorem dX11_move_53 : decode cX11_move 53 = .ok (.ireturn, 1) := by decide +kernel
theorem dX11_move_54 : decode cX11_move 54 = .ok (.aload_n 0, 1) := by decide +kernel
theorem dX11_move_55 : decode cX11_move 55 = .ok (.getfield 10, 3) := by decide +kernel
theorem dX11_move_58 : decode cX11_move 58 = .ok (.getfield 43, 3) := by decide +kernel
theorem dX11_move_61 : decode cX11_move 61 = .ok (.getfield 194, 3) := by decide +kernel
theorem dX11_move_64 : decode cX11_move 64 = .ok (.iload_n 1, 1) := by decide +kernel
theorem dX11_move_65 : decode cX11_move 65 = .ok (.iload 4, 2) := by decide +kernel
theorem dX11_move_67 : decode cX11_move 67 = .ok (.iastore, 1) := by decide +kernel
theorem dX11_move_68 : decode cX11_move 68 = .ok (.aload_n 0, 1) := by decide +kernel
theorem dX11_move_69 : decode cX11_move 69 = .ok (.getfield 10, 3) := by decide +kernel
theorem dX11_move_72 : decode cX11_move 72 = .ok (.getfield 43, 3) := by decide +kernel
theorem dX11_move_75 : decode cX11_move 75 = .ok (.getfield 195, 3) := by decide +kernel
theorem dX11_move_78 : decode cX11_move 78 = .ok (.iload_n 1, 1) := by decide +kernel
theorem dX11_move_79 : decode cX11_move 79 = .ok (.iload 5, 2) := by decide +kernel
theorem dX11_move_81 : decode cX11_move 81 = .ok (.iastore, 1) := by decide +kernel
theorem dX11_move_82 : decode cX11_move 82 = .ok (.iconst 1, 1) := by decide +kernel
theorem dX11_move_83 : decode cX11_move 83 = .ok (.ireturn, 1) := by decide +kernel
theorem dX11_offer_0 : decode cX11_offer 0 = .ok (.iload_n 1, 1) := by decide +kernel
theorem dX11_offer_1 : decode cX11_offer 1 = .ok (.i2l, 1) := by decide +kernel
theorem dX11_offer_2 : decode cX11_offer 2 = .ok (.lconst 1, 1) := by decide +kernel
theorem dX11_offer_3 : decode cX11_offer 3 = .ok (.ldc2_w 244, 3) := by decide +kernel
theorem dX11_offer_6 : decode cX11_offer 6 = .ok (.invokestatic 93, 3) := by decide +kernel
theorem dX11_offer_9 : decode cX11_offer 9 = .ok (.invokestatic 97, 3) := by decide +kernel
theorem dX11_offer_12 : decode cX11_offer 12 = .ok (.aload_n 0, 1) := by decide +kernel
theorem dX11_offer_13 : decode cX11_offer 13 = .ok (.getfield 10, 3) := by decide +kernel
theorem dX11_offer_16 : decode cX11_offer 16 = .ok (.iload_n 1, 1) := by decide +kernel
theorem dX11_offer_17 : decode cX11_offer 17 = .ok (.invokevirtual 246, 3) := by decide +kernel
theorem dX11_offer_20 : decode cX11_offer 20 = .ok (.ireturn, 1) := by decide +kernel
theorem dX11_price_0 : decode cX11_price 0 = .ok (.aload_n 0, 1) := by decide +kernel
theorem dX11_price_1 : decode cX11_price 1 = .ok (.iload_n 1, 1) := by decide +kernel
theorem dX11_price_2 : decode cX11_price 2 = .ok (.invokevirtual 249, 3) := by decide +kernel
theorem dX11_price_5 : decode cX11_price 5 = .ok (.iload_n 2, 1) := by decide +kernel
theorem dX11_price_6 : decode cX11_price 6 = .ok (.i2l, 1) := by decide +kernel
theorem dX11_price_7 : decode cX11_price 7 = .ok (.lconst 1, 1) := by decide +kernel
theorem dX11_price_8 : decode cX11_price 8 = .ok (.ldc2_w 244, 3) := by decide +kernel
theorem dX11_price_11 : decode cX11_price 11 = .ok (.invokestatic 93, 3) := by decide +kernel
theorem dX11_price_14 : decode cX11_price 14 = .ok (.invokestatic 97, 3) := by decide +kernel
theorem dX11_price_17 : decode cX11_price 17 = .ok (.aload_n 0, 1) := by decide +kernel
theorem dX11_price_18 : decode cX11_price 18 = .ok (.getfield 10, 3) := by decide +kernel
theorem dX11_price_21 : decode cX11_price 21 = .ok (.getfield 252, 3) := by decide +kernel
theorem dX11_price_24 : decode cX11_price 24 = .ok (.iload_n 1, 1) := by decide +kernel
theorem dX11_price_25 : decode cX11_price 25 = .ok (.iload_n 2, 1) := by decide +kernel
theorem dX11_price_26 : decode cX11_price 26 = .ok (.invokestatic 132, 3) := by decide +kernel
theorem dX11_price_29 : decode cX11_price 29 = .ok (.ireturn, 1) := by decide +kernel
theorem dX11_load_0 : decode cX11_load 0 = .ok (.aload_n 0, 1) := by decide +kernel
theorem dX11_load_1 : decode cX11_load 1 = .ok (.iload_n 1, 1) := by decide +kernel
theorem dX11_load_2 : decode cX11_load 2 = .ok (.invokevirtual 109, 3) := by decide +kernel
theorem dX11_load_5 : decode cX11_load 5 = .ok (.aload_n 0, 1) := by decide +kernel
theorem dX11_load_6 : decode cX11_load 6 = .ok (.iload_n 2, 1) := by decide +kernel
theorem dX11_load_7 : decode cX11_load 7 = .ok (.invokevirtual 109, 3) := by decide +kernel
theorem dX11_load_10 : decode cX11_load 10 = .ok (.iload_n 3, 1) := by decide +kernel
theorem dX11_load_11 : decode cX11_load 11 = .ok (.i2l, 1) := by decide +kernel
theorem dX11_load_12 : decode cX11_load 12 = .ok (.lconst 1, 1) := by decide +kernel
theorem dX11_load_13 : decode cX11_load 13 = .ok (.ldc2_w 143, 3) := by decide +kernel
theorem dX11_load_16 : decode cX11_load 16 = .ok (.invokestatic 93, 3) := by decide +kernel
theorem dX11_load_19 : decode cX11_load 19 = .ok (.invokestatic 97, 3) := by decide +kernel
theorem dX11_load_22 : decode cX11_load 22 = .ok (.aload_n 0, 1) := by decide +kernel
theorem dX11_load_23 : decode cX11_load 23 = .ok (.getfield 10, 3) := by decide +kernel
theorem dX11_load_26 : decode cX11_load 26 = .ok (.getfield 255, 3) := by decide +kernel
theorem dX11_load_29 : decode cX11_load 29 = .ok (.iload_n 1, 1) := by decide +kernel
theorem dX11_load_30 : decode cX11_load 30 = .ok (.iload_n 3, 1) := by decide +kernel
theorem dX11_load_31 : decode cX11_load 31 = .ok (.invokevirtual 259, 3) := by decide +kernel
theorem dX11_load_34 : decode cX11_load 34 = .ok (.ifCond .ne 5, 3) := by decide +kernel
theorem dX11_load_37 : decode cX11_load 37 = .ok (.iconst (-1), 1) := by decide +kernel
theorem dX11_load_38 : decode cX11_load 38 = .ok (.ireturn, 1) := by decide +kernel
theorem dX11_load_39 : decode cX11_load 39 = .ok (.iconst 0, 1) := by decide +kernel
theorem dX11_load_40 : decode cX11_load 40 = .ok (.istore 4, 2) := by decide +kernel
theorem dX11_load_42 : decode cX11_load 42 = .ok (.iload 4, 2) := by decide +kernel
theorem dX11_load_44 : decode cX11_load 44 = .ok (.iload_n 3, 1) := by decide +kernel
theorem dX11_load_45 : decode cX11_load 45 = .ok (.if_icmp .ge 21, 3) := by decide +kernel
theorem dX11_load_48 : decode cX11_load 48 = .ok (.aload_n 0, 1) := by decide +kernel
theorem dX11_load_49 : decode cX11_load 49 = .ok (.getfield 10, 3) := by decide +kernel
theorem dX11_load_52 : decode cX11_load 52 = .ok (.getfield 255, 3) := by decide +kernel
theorem dX11_load_55 : decode cX11_load 55 = .ok (.iload_n 1, 1) := by decide +kernel
theorem dX11_load_56 : decode cX11_load 56 = .ok (.iload_n 2, 1) := by decide +kernel
theorem dX11_load_57 : decode cX11_load 57 = .ok (.invokevirtual 264, 3) := by decide +kernel
theorem dX11_load_60 : decode cX11_load 60 = .ok (.iinc 4 1, 3) := by decide +kernel
theorem dX11_load_63 : decode cX11_load 63 = .ok (.goto (-21), 3) := by decide +kernel
theorem dX11_load_66 : decode cX11_load 66 = .ok (.aload_n 0, 1) := by decide +kernel
theorem dX11_load_67 : decode cX11_load 67 = .ok (.getfield 10, 3) := by decide +kernel
theorem dX11_load_70 : decode cX11_load 70 = .ok (.getfield 255, 3) := by decide +kernel
theorem dX11_load_73 : decode cX11_load 73 = .ok (.getfield 268, 3) := by decide +kernel
theorem dX11_load_76 : decode cX11_load 76 = .ok (.iload_n 1, 1) := by decide +kernel
theorem dX11_load_77 : decode cX11_load 77 = .ok (.iaload, 1) := by decide +kernel
theorem dX11_load_78 : decode cX11_load 78 = .ok (.ireturn, 1) := by decide +kernel
theorem dX11_put_0 : decode cX11_put 0 = .ok (.aload_n 0, 1) := by decide +kernel
theorem dX11_put_1 : decode cX11_put 1 = .ok (.iload_n 1, 1) := by decide +kernel
theorem dX11_put_2 : decode cX11_put 2 = .ok (.invokevirtual 109, 3) := by decide +kernel
theorem dX11_put_5 : decode cX11_put 5 = .ok (.aload_n 0, 1) := by decide +kernel
theorem dX11_put_6 : decode cX11_put 6 = .ok (.getfield 10, 3) := by decide +kernel
theorem dX11_put_9 : decode cX11_put 9 = .ok (.getfield 39, 3) := by decide +kernel
theorem dX11_put_12 : decode cX11_put 12 = .ok (.iload_n 1, 1) := by decide +kernel
theorem dX11_put_13 : decode cX11_put 13 = .ok (.iload_n 2, 1) := by decide +kernel
theorem dX11_put_14 : decode cX11_put 14 = .ok (.iload_n 3, 1) := by decide +kernel
theorem dX11_put_15 : decode cX11_put 15 = .ok (.iload 4, 2) := by decide +kernel
theorem dX11_put_17 : decode cX11_put 17 = .ok (.invokevirtual 271, 3) := by decide +kernel
theorem dX11_put_20 : decode cX11_put 20 = .ok (.invokestatic 97, 3) := by decide +kernel
theorem dX11_put_23 : decode cX11_put 23 = .ok (.iload 5, 2) := by decide +kernel
theorem dX11_put_25 : decode cX11_put 25 = .ok (.i2l, 1) := by decide +kernel
theorem dX11_put_26 : decode cX11_put 26 = .ok (.lconst 0, 1) := by decide +kernel
theorem dX11_put_27 : decode cX11_put 27 = .ok (.ldc2_w 141, 3) := by decide +kernel
theorem dX11_put_30 : decode cX11_put 30 = .ok (.invokestatic 93, 3) := by decide +kernel
theorem dX11_put_33 : decode cX11_put 33 = .ok (.invokestatic 97, 3) := by decide +kernel
theorem dX11_put_36 : decode cX11_put 36 = .ok (.iload 5, 2) := by decide +kernel
theorem dX11_put_38 : decode cX11_put 38 = .ok (.iconst 3, 1) := by decide +kernel
theorem dX11_put_39 : decode cX11_put 39 = .ok (.if_icmp .ne 21, 3) := by decide +kernel
theorem dX11_put_42 : decode cX11_put 42 = .ok (.aload_n 0, 1) := by decide +kernel
theorem dX11_put_43 : decode cX11_put 43 = .ok (.getfield 10, 3) := by decide +kernel
theorem dX11_put_46 : decode cX11_put 46 = .ok (.getfield 255, 3) := by decide +kernel
theorem dX11_put_49 : decode cX11_put 49 = .ok (.getfield 275, 3) := by decide +kernel
theorem dX11_put_52 : decode cX11_put 52 = .ok (.iload_n 1, 1) := by decide +kernel
theorem dX11_put_53 : decode cX11_put 53 = .ok (.dup2, 1) := by decide +kernel
theorem dX11_put_54 : decode cX11_put 54 = .ok (.iaload, 1) := by decide +kernel
theorem dX11_put_55 : decode cX11_put 55 = .ok (.iconst 1, 1) := by decide +kernel
theorem dX11_put_56 : decode cX11_put 56 = .ok (.iadd, 1) := by decide +kernel
theorem dX11_put_57 : decode cX11_put 57 = .ok (.iastore, 1) := by decide +kernel
theorem dX11_put_58 : decode cX11_put 58 = .ok (.iload_n 1, 1) := by decide +kernel
theorem dX11_put_59 : decode cX11_put 59 = .ok (.ireturn, 1) := by decide +kernel
theorem dX11_put_60 : decode cX11_put 60 = .ok (.aload_n 0, 1) := by decide +kernel
theorem dX11_put_61 : decode cX11_put 61 = .ok (.getfield 50, 3) := by decide +kernel
theorem dX11_put_64 : decode cX11_put 64 = .ok (.iload_n 2, 1) := by decide +kernel
theorem dX11_put_65 : decode cX11_put 65 = .ok (.iload_n 3, 1) := by decide +kernel
theorem dX11_put_66 : decode cX11_put 66 = .ok (.iload 4, 2) := by decide +kernel
theorem dX11_put_68 : decode cX11_put 68 = .ok (.invokevirtual 196, 3) := by decide +kernel
theorem dX11_put_71 : decode cX11_put 71 = .ok (.istore 6, 2) := by decide +kernel
theorem dX11_put_73 : decode cX11_put 73 = .ok (.iload 6, 2) := by decide +kernel
theorem dX11_put_75 : decode cX11_put 75 = .ok (.iconst (-1), 1) := by decide +kernel
theorem dX11_put_76 : decode cX11_put 76 = .ok (.if_icmp .eq 18, 3) := by decide +kernel
theorem dX11_put_79 : decode cX11_put 79 = .ok (.aload_n 0, 1) := by decide +kernel
theorem dX11_put_80 : decode cX11_put 80 = .ok (.getfield 10, 3) := by decide +kernel
theorem dX11_put_83 : decode cX11_put 83 = .ok (.getfield 255, 3) := by decide +kernel
theorem dX11_put_86 : decode cX11_put 86 = .ok (.getfield 278, 3) := by decide +kernel
theorem dX11_put_89 : decode cX11_put 89 = .ok (.bipush 12, 2) := by decide +kernel
theorem dX11_put_91 : decode cX11_put 91 = .ok (.if_icmp .lt 5, 3) := by decide +kernel
theorem dX11_put_94 : decode cX11_put 94 = .ok (.iconst (-1), 1) := by decide +kernel
theorem dX11_put_95 : decode cX11_put 95 = .ok (.ireturn, 1) := by decide +kernel
theorem dX11_put_96 : decode cX11_put 96 = .ok (.iload 5, 2) := by decide +kernel
theorem dX11_put_98 : decode cX11_put 98 = .ok (.iconst 1, 1) := by decide +kernel
theorem dX11_put_99 : decode cX11_put 99 = .ok (.if_icmp .ne 7, 3) := by decide +kernel
theorem dX11_put_102 : decode cX11_put 102 = .ok (.iconst 2, 1) := by decide +kernel
theorem dX11_put_103 : decode cX11_put 103 = .ok (.goto 4, 3) := by decide +kernel
theorem dX11_put_106 : decode cX11_put 106 = .ok (.iconst 1, 1) := by decide +kernel
theorem dX11_put_107 : decode cX11_put 107 = .ok (.istore 7, 2) := by decide +kernel
theorem dX11_put_109 : decode cX11_put 109 = .ok (.aload_n 0, 1) := by decide +kernel
theorem dX11_put_110 : decode cX11_put 110 = .ok (.getfield 10, 3) := by decide +kernel
theorem dX11_put_113 : decode cX11_put 113 = .ok (.getfield 255, 3) := by decide +kernel
theorem dX11_put_116 : decode cX11_put 116 = .ok (.iload 5, 2) := by decide +kernel
theorem dX11_put_118 : decode cX11_put 118 = .ok (.iconst 2, 1) := by decide +kernel
theorem dX11_put_119 : decode cX11_put 119 = .ok (.if_icmp .ne 7, 3) := by decide +kernel
theorem dX11_put_122 : decode cX11_put 122 = .ok (.iconst (-1), 1) := by decide +kernel
theorem dX11_put_123 : decode cX11_put 123 = .ok (.goto 4, 3) := by decide +kernel
theorem dX11_put_126 : decode cX11_put 126 = .ok (.iload_n 1, 1) := by decide +kernel
theorem dX11_put_127 : decode cX11_put 127 = .ok (.iload 6, 2) := by decide +kernel
theorem dX11_put_129 : decode cX11_put 129 = .ok (.iload 7, 2) := by decide +kernel
theorem dX11_put_131 : decode cX11_put 131 = .ok (.iload 7, 2) := by decide +kernel
theorem dX11_put_133 : decode cX11_put 133 = .ok (.aload_n 0, 1) := by decide +kernel
theorem dX11_put_134 : decode cX11_put 134 = .ok (.getfield 10, 3) := by decide +kernel
theorem dX11_put_137 : decode cX11_put 137 = .ok (.getfield 39, 3) := by decide +kernel
theorem dX11_put_140 : decode cX11_put 140 = .ok (.getfield 281, 3) := by decide +kernel
theorem dX11_put_143 : decode cX11_put 143 = .ok (.iload 6, 2) := by decide +kernel
theorem dX11_put_145 : decode cX11_put 145 = .ok (.iaload, 1) := by decide +kernel
theorem dX11_put_146 : decode cX11_put 146 = .ok (.imul, 1) := by decide +kernel
theorem dX11_put_147 : decode cX11_put 147 = .ok (.invokevirtual 284, 3) := by decide +kernel
theorem dX11_put_150 : decode cX11_put 150 = .ok (.iload 6, 2) := by decide +kernel
theorem dX11_put_152 : decode cX11_put 152 = .ok (.ireturn, 1) := by decide +kernel
theorem dX11_credit_0 : decode cX11_credit 0 = .ok (.aload_n 0, 1) := by decide +kernel
theorem dX11_credit_1 : decode cX11_credit 1 = .ok (.getfield 10, 3) := by decide +kernel
theorem dX11_credit_4 : decode cX11_credit 4 = .ok (.getfield 255, 3) := by decide +kernel
theorem dX11_credit_7 : decode cX11_credit 7 = .ok (.invokevirtual 288, 3) := by decide +kernel
theorem dX11_credit_10 : decode cX11_credit 10 = .ok (.ireturn, 1) := by decide +kernel
theorem dX11_sale_0 : decode cX11_sale 0 = .ok (.aload_n 0, 1) := by decide +kernel
theorem dX11_sale_1 : decode cX11_sale 1 = .ok (.iload_n 1, 1) := by decide +kernel
theorem dX11_sale_2 : decode cX11_sale 2 = .ok (.invokevirtual 249, 3) := by decide +kernel
theorem dX11_sale_5 : decode cX11_sale 5 = .ok (.aload_n 0, 1) := by decide +kernel
theorem dX11_sale_6 : decode cX11_sale 6 = .ok (.getfield 10, 3) := by decide +kernel
theorem dX11_sale_9 : decode cX11_sale 9 = .ok (.getfield 255, 3) := by decide +kernel
theorem dX11_sale_12 : decode cX11_sale 12 = .ok (.invokevirtual 288, 3) := by decide +kernel
theorem dX11_sale_15 : decode cX11_sale 15 = .ok (.aload_n 0, 1) := by decide +kernel
theorem dX11_sale_16 : decode cX11_sale 16 = .ok (.getfield 10, 3) := by decide +kernel
theorem dX11_sale_19 : decode cX11_sale 19 = .ok (.getfield 252, 3) := by decide +kernel
theorem dX11_sale_22 : decode cX11_sale 22 = .ok (.iload_n 1, 1) := by decide +kernel
theorem dX11_sale_23 : decode cX11_sale 23 = .ok (.iaload, 1) := by decide +kernel
theorem dX11_sale_24 : decode cX11_sale 24 = .ok (.isub, 1) := by decide +kernel
theorem dX11_sale_25 : decode cX11_sale 25 = .ok (.istore_n 2, 1) := by decide +kernel
theorem dX11_sale_26 : decode cX11_sale 26 = .ok (.iload_n 2, 1) := by decide +kernel
theorem dX11_sale_27 : decode cX11_sale 27 = .ok (.ifCond .ge 5, 3) := by decide +kernel
theorem dX11_sale_30 : decode cX11_sale 30 = .ok (.iconst (-1), 1) := by decide +kernel
theorem dX11_sale_31 : decode cX11_sale 31 = .ok (.ireturn, 1) := by decide +kernel
theorem dX11_sale_32 : decode cX11_sale 32 = .ok (.aload_n 0, 1) := by decide +kernel
theorem dX11_sale_33 : decode cX11_sale 33 = .ok (.getfield 59, 3) := by decide +kernel
theorem dX11_sale_36 : decode cX11_sale 36 = .ok (.aload_n 0, 1) := by decide +kernel
theorem dX11_sale_37 : decode cX11_sale 37 = .ok (.getfield 10, 3) := by decide +kernel
theorem dX11_sale_40 : decode cX11_sale 40 = .ok (.getfield 255, 3) := by decide +kernel
theorem dX11_sale_43 : decode cX11_sale 43 = .ok (.getfield 268, 3) := by decide +kernel
theorem dX11_sale_46 : decode cX11_sale 46 = .ok (.iconst 0, 1) := by decide +kernel
theorem dX11_sale_47 : decode cX11_sale 47 = .ok (.iload_n 2, 1) := by decide +kernel
theorem dX11_sale_48 : decode cX11_sale 48 = .ok (.invokevirtual 292, 3) := by decide +kernel
theorem dX11_sale_51 : decode cX11_sale 51 = .ok (.aload_n 0, 1) := by decide +kernel
theorem dX11_sale_52 : decode cX11_sale 52 = .ok (.getfield 59, 3) := by decide +kernel
theorem dX11_sale_55 : decode cX11_sale 55 = .ok (.iload_n 2, 1) := by decide +kernel
theorem dX11_sale_56 : decode cX11_sale 56 = .ok (.invokevirtual 296, 3) := by decide +kernel
theorem dX11_sale_59 : decode cX11_sale 59 = .ok (.ifCond .ne 5, 3) := by decide +kernel
theorem dX11_sale_62 : decode cX11_sale 62 = .ok (.iconst (-1), 1) := by decide +kernel
theorem dX11_sale_63 : decode cX11_sale 63 = .ok (.ireturn, 1) := by decide +kernel
theorem dX11_sale_64 : decode cX11_sale 64 = .ok (.aload_n 0, 1) := by decide +kernel
theorem dX11_sale_65 : decode cX11_sale 65 = .ok (.getfield 10, 3) := by decide +kernel
theorem dX11_sale_68 : decode cX11_sale 68 = .ok (.getfield 255, 3) := by decide +kernel
theorem dX11_sale_71 : decode cX11_sale 71 = .ok (.iconst 0, 1) := by decide +kernel
theorem dX11_sale_72 : decode cX11_sale 72 = .ok (.putfield 299, 3) := by decide +kernel
theorem dX11_sale_75 : decode cX11_sale 75 = .ok (.iconst 0, 1) := by decide +kernel
theorem dX11_sale_76 : decode cX11_sale 76 = .ok (.istore_n 3, 1) := by decide +kernel
theorem dX11_sale_77 : decode cX11_sale 77 = .ok (.iload_n 3, 1) := by decide +kernel
theorem dX11_sale_78 : decode cX11_sale 78 = .ok (.aload_n 0, 1) := by decide +kernel
theorem dX11_sale_79 : decode cX11_sale 79 = .ok (.getfield 10, 3) := by decide +kernel
theorem dX11_sale_82 : decode cX11_sale 82 = .ok (.getfield 39, 3) := by decide +kernel
theorem dX11_sale_85 : decode cX11_sale 85 = .ok (.getfield 302, 3) := by decide +kernel
theorem dX11_sale_88 : decode cX11_sale 88 = .ok (.if_icmp .ge 29, 3) := by decide +kernel
theorem dX11_sale_91 : decode cX11_sale 91 = .ok (.aload_n 0, 1) := by decide +kernel
theorem dX11_sale_92 : decode cX11_sale 92 = .ok (.getfield 10, 3) := by decide +kernel
theorem dX11_sale_95 : decode cX11_sale 95 = .ok (.getfield 255, 3) := by decide +kernel
theorem dX11_sale_98 : decode cX11_sale 98 = .ok (.iload_n 3, 1) := by decide +kernel
theorem dX11_sale_99 : decode cX11_sale 99 = .ok (.aload_n 0, 1) := by decide +kernel
theorem dX11_sale_100 : decode cX11_sale 100 = .ok (.getfield 59, 3) := by decide +kernel
theorem dX11_sale_103 : decode cX11_sale 103 = .ok (.iload_n 2, 1) := by decide +kernel
theorem dX11_sale_104 : decode cX11_sale 104 = .ok (.iload_n 3, 1) := by decide +kernel
theorem dX11_sale_105 : decode cX11_sale 105 = .ok (.invokevirtual 303, 3) := by decide +kernel
theorem dX11_sale_108 : decode cX11_sale 108 = .ok (.invokevirtual 307, 3) := by decide +kernel
theorem dX11_sale_111 : decode cX11_sale 111 = .ok (.iinc 3 1, 3) := by decide +kernel
theorem dX11_sale_114 : decode cX11_sale 114 = .ok (.goto (-37), 3) := by decide +kernel
theorem dX11_sale_117 : decode cX11_sale 117 = .ok (.aload_n 0, 1) := by decide +kernel
theorem dX11_sale_118 : decode cX11_sale 118 = .ok (.getfield 10, 3) := by decide +kernel
theorem dX11_sale_121 : decode cX11_sale 121 = .ok (.getfield 255, 3) := by decide +kernel
theorem dX11_sale_124 : decode cX11_sale 124 = .ok (.invokevirtual 310, 3) := by decide +kernel
theorem dX11_sale_127 : decode cX11_sale 127 = .ok (.aload_n 0, 1) := by decide +kernel
theorem dX11_sale_128 : decode cX11_sale 128 = .ok (.getfield 10, 3) := by decide +kernel
theorem dX11_sale_131 : decode cX11_sale 131 = .ok (.getfield 255, 3) := by decide +kernel
theorem dX11_sale_134 : decode cX11_sale 134 = .ok (.getfield 299, 3) := by decide +kernel
theorem dX11_sale_137 : decode cX11_sale 137 = .ok (.ireturn, 1) := by decide +kernel
theorem dX11_refund_0 : decode cX11_refund 0 = .ok (.aload_n 0, 1) := by decide +kernel
theorem dX11_refund_1 : decode cX11_refund 1 = .ok (.getfield 10, 3) := by decide +kernel
theorem dX11_refund_4 : decode cX11_refund 4 = .ok (.getfield 255, 3) := by decide +kernel
theorem dX11_refund_7 : decode cX11_refund 7 = .ok (.invokevirtual 313, 3) := by decide +kernel
theorem dX11_refund_10 : decode cX11_refund 10 = .ok (.aload_n 0, 1) := by decide +kernel
theorem dX11_refund_11 : decode cX11_refund 11 = .ok (.getfield 10, 3) := by decide +kernel
theorem dX11_refund_14 : decode cX11_refund 14 = .ok (.getfield 255, 3) := by decide +kernel
theorem dX11_refund_17 : decode cX11_refund 17 = .ok (.getfield 299, 3) := by decide +kernel
theorem dX11_refund_20 : decode cX11_refund 20 = .ok (.ireturn, 1) := by decide +kernel
theorem dX11_given_0 : decode cX11_given 0 = .ok (.iload_n 1, 1) := by decide +kernel
theorem dX11_given_1 : decode cX11_given 1 = .ok (.i2l, 1) := by decide +kernel
theorem dX11_given_2 : decode cX11_given 2 = .ok (.lconst 0, 1) := by decide +kernel
theorem dX11_given_3 : decode cX11_given 3 = .ok (.aload_n 0, 1) := by decide +kernel
theorem dX11_given_4 : decode cX11_given 4 = .ok (.getfield 10, 3) := by decide +kernel
theorem dX11_given_7 : decode cX11_given 7 = .ok (.getfield 255, 3) := by decide +kernel
theorem dX11_given_10 : decode cX11_given 10 = .ok (.getfield 299, 3) := by decide +kernel
theorem dX11_given_13 : decode cX11_given 13 = .ok (.iconst 1, 1) := by decide +kernel
theorem dX11_given_14 : decode cX11_given 14 = .ok (.isub, 1) := by decide +kernel
theorem dX11_given_15 : decode cX11_given 15 = .ok (.i2l, 1) := by decide +kernel
theorem dX11_given_16 : decode cX11_given 16 = .ok (.invokestatic 93, 3) := by decide +kernel
theorem dX11_given_19 : decode cX11_given 19 = .ok (.ifCond .eq 18, 3) := by decide +kernel
theorem dX11_given_22 : decode cX11_given 22 = .ok (.aload_n 0, 1) := by decide +kernel
theorem dX11_given_23 : decode cX11_given 23 = .ok (.getfield 10, 3) := by decide +kernel
theorem dX11_given_26 : decode cX11_given 26 = .ok (.getfield 255, 3) := by decide +kernel
theorem dX11_given_29 : decode cX11_given 29 = .ok (.getfield 316, 3) := by decide +kernel
theorem dX11_given_32 : decode cX11_given 32 = .ok (.iload_n 1, 1) := by decide +kernel
theorem dX11_given_33 : decode cX11_given 33 = .ok (.iaload, 1) := by decide +kernel
theorem dX11_given_34 : decode cX11_given 34 = .ok (.goto 4, 3) := by decide +kernel
theorem dX11_given_37 : decode cX11_given 37 = .ok (.iconst (-1), 1) := by decide +kernel
theorem dX11_given_38 : decode cX11_given 38 = .ok (.ireturn, 1) := by decide +kernel
theorem dX11_tube_0 : decode cX11_tube 0 = .ok (.aload_n 0, 1) := by decide +kernel
theorem dX11_tube_1 : decode cX11_tube 1 = .ok (.iload_n 1, 1) := by decide +kernel
theorem dX11_tube_2 : decode cX11_tube 2 = .ok (.invokevirtual 109, 3) := by decide +kernel
theorem dX11_tube_5 : decode cX11_tube 5 = .ok (.iload_n 2, 1) := by decide +kernel
theorem dX11_tube_6 : decode cX11_tube 6 = .ok (.i2l, 1) := by decide +kernel
theorem dX11_tube_7 : decode cX11_tube 7 = .ok (.lconst 0, 1) := by decide +kernel
theorem dX11_tube_8 : decode cX11_tube 8 = .ok (.ldc2_w 113, 3) := by decide +kernel
theorem dX11_tube_11 : decode cX11_tube 11 = .ok (.invokestatic 93, 3) := by decide +kernel
theorem dX11_tube_14 : decode cX11_tube 14 = .ok (.invokestatic 97, 3) := by decide +kernel
theorem dX11_tube_17 : decode cX11_tube 17 = .ok (.iload_n 2, 1) := by decide +kernel
theorem dX11_tube_18 : decode cX11_tube 18 = .ok (.ifCond .ne 16, 3) := by decide +kernel
theorem dX11_tube_21 : decode cX11_tube 21 = .ok (.aload_n 0, 1) := by decide +kernel
theorem dX11_tube_22 : decode cX11_tube 22 = .ok (.getfield 10, 3) := by decide +kernel
theorem dX11_tube_25 : decode cX11_tube 25 = .ok (.getfield 255, 3) := by decide +kernel
theorem dX11_tube_28 : decode cX11_tube 28 = .ok (.getfield 268, 3) := by decide +kernel
theorem dX11_tube_31 : decode cX11_tube 31 = .ok (.iload_n 1, 1) := by decide +kernel
theorem dX11_tube_32 : decode cX11_tube 32 = .ok (.iaload, 1) := by decide +kernel
theorem dX11_tube_33 : decode cX11_tube 33 = .ok (.ireturn, 1) := by decide +kernel
theorem dX11_tube_34 : decode cX11_tube 34 = .ok (.iload_n 2, 1) := by decide +kernel
theorem dX11_tube_35 : decode cX11_tube 35 = .ok (.iconst 1, 1) := by decide +kernel
theorem dX11_tube_36 : decode cX11_tube 36 = .ok (.if_icmp .ne 17, 3) := by decide +kernel
theorem dX11_tube_39 : decode cX11_tube 39 = .ok (.aload_n 0, 1) := by decide +kernel
theorem dX11_tube_40 : decode cX11_tube 40 = .ok (.getfield 10, 3) := by decide +kernel
theorem dX11_tube_43 : decode cX11_tube 43 = .ok (.getfield 255, 3) := by decide +kernel
theorem dX11_tube_46 : decode cX11_tube 46 = .ok (.iload_n 1, 1) := by decide +kernel
theorem dX11_tube_47 : decode cX11_tube 47 = .ok (.invokevirtual 319, 3) := by decide +kernel
theorem dX11_tube_50 : decode cX11_tube 50 = .ok (.goto 14, 3) := by decide +kernel
theorem dX11_tube_53 : decode cX11_tube 53 = .ok (.aload_n 0, 1) := by decide +kernel
theorem dX11_tube_54 : decode cX11_tube 54 = .ok (.getfield 10, 3) := by decide +kernel
theorem dX11_tube_57 : decode cX11_tube 57 = .ok (.getfield 255, 3) := by decide +kernel
theorem dX11_tube_60 : decode cX11_tube 60 = .ok (.iload_n 1, 1) := by decide +kernel
theorem dX11_tube_61 : decode cX11_tube 61 = .ok (.invokevirtual 322, 3) := by decide +kernel
theorem dX11_tube_64 : decode cX11_tube 64 = .ok (.ireturn, 1) := by decide +kernel
theorem dX11_bag_0 : decode cX11_bag 0 = .ok (.aload_n 0, 1) := by decide +kernel
theorem dX11_bag_1 : decode cX11_bag 1 = .ok (.iload_n 1, 1) := by decide +kernel
theorem dX11_bag_2 : decode cX11_bag 2 = .ok (.invokevirtual 109, 3) := by decide +kernel
theorem dX11_bag_5 : decode cX11_bag 5 = .ok (.aload_n 0, 1) := by decide +kernel
theorem dX11_bag_6 : decode cX11_bag 6 = .ok (.getfield 10, 3) := by decide +kernel
theorem dX11_bag_9 : decode cX11_bag 9 = .ok (.getfield 255, 3) := by decide +kernel
theorem dX11_bag_12 : decode cX11_bag 12 = .ok (.getfield 275, 3) := by decide +kernel
theorem dX11_bag_15 : decode cX11_bag 15 = .ok (.iload_n 1, 1) := by decide +kernel
theorem dX11_bag_16 : decode cX11_bag 16 = .ok (.iaload, 1) := by decide +kernel
theorem dX11_bag_17 : decode cX11_bag 17 = .ok (.ireturn, 1) := by decide +kernel
theorem dX11_empty_0 : decode cX11_empty 0 = .ok (.aload_n 0, 1) := by decide +kernel
theorem dX11_empty_1 : decode cX11_empty 1 = .ok (.iload_n 1, 1) := by decide +kernel
theorem dX11_empty_2 : decode cX11_empty 2 = .ok (.invokevirtual 109, 3) := by decide +kernel
theorem dX11_empty_5 : decode cX11_empty 5 = .ok (.aload_n 0, 1) := by decide +kernel
theorem dX11_empty_6 : decode cX11_empty 6 = .ok (.getfield 10, 3) := by decide +kernel
theorem dX11_empty_9 : decode cX11_empty 9 = .ok (.getfield 255, 3) := by decide +kernel
theorem dX11_empty_12 : decode cX11_empty 12 = .ok (.getfield 268, 3) := by decide +kernel
theorem dX11_empty_15 : decode cX11_empty 15 = .ok (.iload_n 1, 1) := by decide +kernel
theorem dX11_empty_16 : decode cX11_empty 16 = .ok (.iaload, 1) := by decide +kernel
theorem dX11_empty_17 : decode cX11_empty 17 = .ok (.istore_n 2, 1) := by decide +kernel
theorem dX11_empty_18 : decode cX11_empty 18 = .ok (.aload_n 0, 1) := by decide +kernel
theorem dX11_empty_19 : decode cX11_empty 19 = .ok (.getfield 10, 3) := by decide +kernel
theorem dX11_empty_22 : decode cX11_empty 22 = .ok (.getfield 255, 3) := by decide +kernel
theorem dX11_empty_25 : decode cX11_empty 25 = .ok (.iload_n 1, 1) := by decide +kernel
theorem dX11_empty_26 : decode cX11_empty 26 = .ok (.invokevirtual 325, 3) := by decide +kernel
theorem dX11_empty_29 : decode cX11_empty 29 = .ok (.iload_n 2, 1) := by decide +kernel
theorem dX11_empty_30 : decode cX11_empty 30 = .ok (.ireturn, 1) := by decide +kernel
theorem dX11_lacks_0 : decode cX11_lacks 0 = .ok (.aload_n 0, 1) := by decide +kernel
theorem dX11_lacks_1 : decode cX11_lacks 1 = .ok (.iload_n 1, 1) := by decide +kernel
theorem dX11_lacks_2 : decode cX11_lacks 2 = .ok (.invokevirtual 249, 3) := by decide +kernel
theorem dX11_lacks_5 : decode cX11_lacks 5 = .ok (.iload_n 2, 1) := by decide +kernel
theorem dX11_lacks_6 : decode cX11_lacks 6 = .ok (.i2l, 1) := by decide +kernel
theorem dX11_lacks_7 : decode cX11_lacks 7 = .ok (.lconst 0, 1) := by decide +kernel
theorem dX11_lacks_8 : decode cX11_lacks 8 = .ok (.ldc2_w 113, 3) := by decide +kernel
theorem dX11_lacks_11 : decode cX11_lacks 11 = .ok (.invokestatic 93, 3) := by decide +kernel
theorem dX11_lacks_14 : decode cX11_lacks 14 = .ok (.invokestatic 97, 3) := by decide +kernel
theorem dX11_lacks_17 : decode cX11_lacks 17 = .ok (.aload_n 0, 1) := by decide +kernel
theorem dX11_lacks_18 : decode cX11_lacks 18 = .ok (.getfield 59, 3) := by decide +kernel
theorem dX11_lacks_21 : decode cX11_lacks 21 = .ok (.aload_n 0, 1) := by decide +kernel
theorem dX11_lacks_22 : decode cX11_lacks 22 = .ok (.getfield 10, 3) := by decide +kernel
theorem dX11_lacks_25 : decode cX11_lacks 25 = .ok (.getfield 255, 3) := by decide +kernel
theorem dX11_lacks_28 : decode cX11_lacks 28 = .ok (.getfield 268, 3) := by decide +kernel
theorem dX11_lacks_31 : decode cX11_lacks 31 = .ok (.iconst 0, 1) := by decide +kernel
theorem dX11_lacks_32 : decode cX11_lacks 32 = .ok (.sipush 200, 3) := by decide +kernel
theorem dX11_lacks_35 : decode cX11_lacks 35 = .ok (.invokevirtual 292, 3) := by decide +kernel
theorem dX11_lacks_38 : decode cX11_lacks 38 = .ok (.iload_n 2, 1) := by decide +kernel
theorem dX11_lacks_39 : decode cX11_lacks 39 = .ok (.ifCond .ne 14, 3) := by decide +kernel
theorem dX11_lacks_42 : decode cX11_lacks 42 = .ok (.aload_n 0, 1) := by decide +kernel
theorem dX11_lacks_43 : decode cX11_lacks 43 = .ok (.getfield 59, 3) := by decide +kernel
theorem dX11_lacks_46 : decode cX11_lacks 46 = .ok (.sipush 200, 3) := by decide +kernel
theorem dX11_lacks_49 : decode cX11_lacks 49 = .ok (.invokevirtual 328, 3) := by decide +kernel
theorem dX11_lacks_52 : decode cX11_lacks 52 = .ok (.ireturn, 1) := by decide +kernel
theorem dX11_lacks_53 : decode cX11_lacks 53 = .ok (.iload_n 2, 1) := by decide +kernel
theorem dX11_lacks_54 : decode cX11_lacks 54 = .ok (.iconst 2, 1) := by decide +kernel
theorem dX11_lacks_55 : decode cX11_lacks 55 = .ok (.if_icmp .ne 14, 3) := by decide +kernel
theorem dX11_lacks_58 : decode cX11_lacks 58 = .ok (.aload_n 0, 1) := by decide +kernel
theorem dX11_lacks_59 : decode cX11_lacks 59 = .ok (.getfield 59, 3) := by decide +kernel
theorem dX11_lacks_62 : decode cX11_lacks 62 = .ok (.sipush 200, 3) := by decide +kernel
theorem dX11_lacks_65 : decode cX11_lacks 65 = .ok (.invokevirtual 331, 3) := by decide +kernel
theorem dX11_lacks_68 : decode cX11_lacks 68 = .ok (.ireturn, 1) := by decide +kernel
theorem dX11_lacks_69 : decode cX11_lacks 69 = .ok (.aload_n 0, 1) := by decide +kernel
theorem dX11_lacks_70 : decode cX11_lacks 70 = .ok (.getfield 59, 3) := by decide +kernel
theorem dX11_lacks_73 : decode cX11_lacks 73 = .ok (.sipush 200, 3) := by decide +kernel
theorem dX11_lacks_76 : decode cX11_lacks 76 = .ok (.invokevirtual 334, 3) := by decide +kernel
theorem dX11_lacks_79 : decode cX11_lacks 79 = .ok (.istore_n 3, 1) := by decide +kernel
theorem dX11_lacks_80 : decode cX11_lacks 80 = .ok (.iload_n 3, 1) := by decide +kernel
theorem dX11_lacks_81 : decode cX11_lacks 81 = .ok (.iconst (-1), 1) := by decide +kernel
theorem dX11_lacks_82 : decode cX11_lacks 82 = .ok (.if_icmp .ne 7, 3) := by decide +kernel
theorem dX11_lacks_85 : decode cX11_lacks 85 = .ok (.iconst (-1), 1) := by decide +kernel
theorem dX11_lacks_86 : decode cX11_lacks 86 = .ok (.goto 14, 3) := by decide +kernel
theorem dX11_lacks_89 : decode cX11_lacks 89 = .ok (.aload_n 0, 1) := by decide +kernel
theorem dX11_lacks_90 : decode cX11_lacks 90 = .ok (.getfield 10, 3) := by decide +kernel
theorem dX11_lacks_93 : decode cX11_lacks 93 = .ok (.getfield 252, 3) := by decide +kernel
theorem dX11_lacks_96 : decode cX11_lacks 96 = .ok (.iload_n 1, 1) := by decide +kernel
theorem dX11_lacks_97 : decode cX11_lacks 97 = .ok (.iaload, 1) := by decide +kernel
theorem dX11_lacks_98 : decode cX11_lacks 98 = .ok (.iload_n 3, 1) := by decide +kernel
theorem dX11_lacks_99 : decode cX11_lacks 99 = .ok (.iadd, 1) := by decide +kernel
theorem dX11_lacks_100 : decode cX11_lacks 100 = .ok (.ireturn, 1) := by decide +kernel
theorem dX11_made_0 : decode cX11_made 0 = .ok (.iload_n 1, 1) := by decide +kernel
theorem dX11_made_1 : decode cX11_made 1 = .ok (.i2l, 1) := by decide +kernel
theorem dX11_made_2 : decode cX11_made 2 = .ok (.lconst 1, 1) := by decide +kernel
theorem dX11_made_3 : decode cX11_made 3 = .ok (.ldc2_w 136, 3) := by decide +kernel
theorem dX11_made_6 : decode cX11_made 6 = .ok (.invokestatic 93, 3) := by decide +kernel
theorem dX11_made_9 : decode cX11_made 9 = .ok (.invokestatic 97, 3) := by decide +kernel
theorem dX11_made_12 : decode cX11_made 12 = .ok (.aload_n 0, 1) := by decide +kernel
theorem dX11_made_13 : decode cX11_made 13 = .ok (.getfield 59, 3) := by decide +kernel
theorem dX11_made_16 : decode cX11_made 16 = .ok (.iload_n 1, 1) := by decide +kernel
theorem dX11_made_17 : decode cX11_made 17 = .ok (.invokevirtual 337, 3) := by decide +kernel
theorem dX11_made_20 : decode cX11_made 20 = .ok (.ireturn, 1) := by decide +kernel
theorem dX11_wheel_0 : decode cX11_wheel 0 = .ok (.aload_n 0, 1) := by decide +kernel
theorem dX11_wheel_1 : decode cX11_wheel 1 = .ok (.iload_n 1, 1) := by decide +kernel
theorem dX11_wheel_2 : decode cX11_wheel 2 = .ok (.invokevirtual 109, 3) := by decide +kernel
theorem dX11_wheel_5 : decode cX11_wheel 5 = .ok (.iload_n 2, 1) := by decide +kernel
theorem dX11_wheel_6 : decode cX11_wheel 6 = .ok (.i2l, 1) := by decide +kernel
theorem dX11_wheel_7 : decode cX11_wheel 7 = .ok (.lconst 0, 1) := by decide +kernel
theorem dX11_wheel_8 : decode cX11_wheel 8 = .ok (.ldc2_w 141, 3) := by decide +kernel
theorem dX11_wheel_11 : decode cX11_wheel 11 = .ok (.invokestatic 93, 3) := by decide +kernel
theorem dX11_wheel_14 : decode cX11_wheel 14 = .ok (.invokestatic 97, 3) := by decide +kernel
theorem dX11_wheel_17 : decode cX11_wheel 17 = .ok (.iload_n 2, 1) := by decide +kernel
theorem dX11_wheel_18 : decode cX11_wheel 18 = .ok (.tableswitch 63 0 2 #[26, 39, 51], 26) := by decide +kernel
theorem dX11_wheel_44 : decode cX11_wheel 44 = .ok (.aload_n 0, 1) := by decide +kernel
theorem dX11_wheel_45 : decode cX11_wheel 45 = .ok (.getfield 10, 3) := by decide +kernel
theorem dX11_wheel_48 : decode cX11_wheel 48 = .ok (.getfield 255, 3) := by decide +kernel
theorem dX11_wheel_51 : decode cX11_wheel 51 = .ok (.getfield 340, 3) := by decide +kernel
theorem dX11_wheel_54 : decode cX11_wheel 54 = .ok (.iload_n 1, 1) := by decide +kernel
theorem dX11_wheel_55 : decode cX11_wheel 55 = .ok (.iaload, 1) := by decide +kernel
theorem dX11_wheel_56 : decode cX11_wheel 56 = .ok (.ireturn, 1) := by decide +kernel
theorem dX11_wheel_57 : decode cX11_wheel 57 = .ok (.aload_n 0, 1) := by decide +kernel
theorem dX11_wheel_58 : decode cX11_wheel 58 = .ok (.getfield 10, 3) := by decide +kernel
theorem dX11_wheel_61 : decode cX11_wheel 61 = .ok (.getfield 255, 3) := by decide +kernel
theorem dX11_wheel_64 : decode cX11_wheel 64 = .ok (.iload_n 1, 1) := by decide +kernel
theorem dX11_wheel_65 : decode cX11_wheel 65 = .ok (.invokevirtual 343, 3) := by decide +kernel
theorem dX11_wheel_68 : decode cX11_wheel 68 = .ok (.ireturn, 1) := by decide +kernel
theorem dX11_wheel_69 : decode cX11_wheel 69 = .ok (.aload_n 0, 1) := by decide +kernel
theorem dX11_wheel_70 : decode cX11_wheel 70 = .ok (.getfield 10, 3) := by decide +kernel
theorem dX11_wheel_73 : decode cX11_wheel 73 = .ok (.getfield 255, 3) := by decide +kernel
theorem dX11_wheel_76 : decode cX11_wheel 76 = .ok (.iload_n 1, 1) := by decide +kernel
theorem dX11_wheel_77 : decode cX11_wheel 77 = .ok (.invokevirtual 346, 3) := by decide +kernel
theorem dX11_wheel_80 : decode cX11_wheel 80 = .ok (.ireturn, 1) := by decide +kernel
theorem dX11_wheel_81 : decode cX11_wheel 81 = .ok (.aload_n 0, 1) := by decide +kernel
theorem dX11_wheel_82 : decode cX11_wheel 82 = .ok (.getfield 10, 3) := by decide +kernel
theorem dX11_wheel_85 : decode cX11_wheel 85 = .ok (.getfield 255, 3) := by decide +kernel
theorem dX11_wheel_88 : decode cX11_wheel 88 = .ok (.iload_n 1, 1) := by decide +kernel
theorem dX11_wheel_89 : decode cX11_wheel 89 = .ok (.invokevirtual 349, 3) := by decide +kernel
theorem dX11_wheel_92 : decode cX11_wheel 92 = .ok (.ireturn, 1) := by decide +kernel
theorem dX11_cost_0 : decode cX11_cost 0 = .ok (.iload_n 1, 1) := by decide +kernel
theorem dX11_cost_1 : decode cX11_cost 1 = .ok (.i2l, 1) := by decide +kernel
theorem dX11_cost_2 : decode cX11_cost 2 = .ok (.lconst 0, 1) := by decide +kernel
theorem dX11_cost_3 : decode cX11_cost 3 = .ok (.ldc2_w 141, 3) := by decide +kernel
theorem dX11_cost_6 : decode cX11_cost 6 = .ok (.invokestatic 93, 3) := by decide +kernel
theorem dX11_cost_9 : decode cX11_cost 9 = .ok (.invokestatic 115, 3) := by decide +kernel
theorem dX11_cost_12 : decode cX11_cost 12 = .ok (.iload_n 2, 1) := by decide +kernel
theorem dX11_cost_13 : decode cX11_cost 13 = .ok (.i2l, 1) := by decide +kernel
theorem dX11_cost_14 : decode cX11_cost 14 = .ok (.lconst 0, 1) := by decide +kernel
theorem dX11_cost_15 : decode cX11_cost 15 = .ok (.ldc2_w 101, 3) := by decide +kernel
theorem dX11_cost_18 : decode cX11_cost 18 = .ok (.invokestatic 93, 3) := by decide +kernel
theorem dX11_cost_21 : decode cX11_cost 21 = .ok (.invokestatic 97, 3) := by decide +kernel
theorem dX11_cost_24 : decode cX11_cost 24 = .ok (.aload_n 0, 1) := by decide +kernel
theorem dX11_cost_25 : decode cX11_cost 25 = .ok (.getfield 10, 3) := by decide +kernel
theorem dX11_cost_28 : decode cX11_cost 28 = .ok (.getfield 255, 3) := by decide +kernel
theorem dX11_cost_31 : decode cX11_cost 31 = .ok (.getfield 352, 3) := by decide +kernel
theorem dX11_cost_34 : decode cX11_cost 34 = .ok (.iload_n 1, 1) := by decide +kernel
theorem dX11_cost_35 : decode cX11_cost 35 = .ok (.iload_n 2, 1) := by decide +kernel
theorem dX11_cost_36 : decode cX11_cost 36 = .ok (.invokestatic 132, 3) := by decide +kernel
theorem dX11_cost_39 : decode cX11_cost 39 = .ok (.ireturn, 1) := by decide +kernel
theorem dX11_explain_0 : decode cX11_explain 0 = .ok (.iload_n 1, 1) := by decide +kernel
theorem dX11_explain_1 : decode cX11_explain 1 = .ok (.i2l, 1) := by decide +kernel
theorem dX11_explain_2 : decode cX11_explain 2 = .ok (.lconst 0, 1) := by decide +kernel
theorem dX11_explain_3 : decode cX11_explain 3 = .ok (.ldc2_w 113, 3) := by decide +kernel
theorem dX11_explain_6 : decode cX11_explain 6 = .ok (.invokestatic 93, 3) := by decide +kernel
theorem dX11_explain_9 : decode cX11_explain 9 = .ok (.invokestatic 97, 3) := by decide +kernel
theorem dX11_explain_12 : decode cX11_explain 12 = .ok (.aload_n 0, 1) := by decide +kernel
theorem dX11_explain_13 : decode cX11_explain 13 = .ok (.getfield 68, 3) := by decide +kernel
theorem dX11_explain_16 : decode cX11_explain 16 = .ok (.invokevirtual 355, 3) := by decide +kernel
theorem dX11_explain_19 : decode cX11_explain 19 = .ok (.iload_n 1, 1) := by decide +kernel
theorem dX11_explain_20 : decode cX11_explain 20 = .ok (.ifCond .ne 11, 3) := by decide +kernel
theorem dX11_explain_23 : decode cX11_explain 23 = .ok (.aload_n 0, 1) := by decide +kernel
theorem dX11_explain_24 : decode cX11_explain 24 = .ok (.getfield 68, 3) := by decide +kernel
theorem dX11_explain_27 : decode cX11_explain 27 = .ok (.getfield 358, 3) := by decide +kernel
theorem dX11_explain_30 : decode cX11_explain 30 = .ok (.ireturn, 1) := by decide +kernel
theorem dX11_explain_31 : decode cX11_explain 31 = .ok (.iload_n 1, 1) := by decide +kernel
theorem dX11_explain_32 : decode cX11_explain 32 = .ok (.iconst 1, 1) := by decide +kernel
theorem dX11_explain_33 : decode cX11_explain 33 = .ok (.if_icmp .ne 13, 3) := by decide +kernel
theorem dX11_explain_36 : decode cX11_explain 36 = .ok (.aload_n 0, 1) := by decide +kernel
theorem dX11_explain_37 : decode cX11_explain 37 = .ok (.getfield 68, 3) := by decide +kernel
theorem dX11_explain_40 : decode cX11_explain 40 = .ok (.getfield 361, 3) := by decide +kernel
theorem dX11_explain_43 : decode cX11_explain 43 = .ok (.goto 10, 3) := by decide +kernel
theorem dX11_explain_46 : decode cX11_explain 46 = .ok (.aload_n 0, 1) := by decide +kernel
theorem dX11_explain_47 : decode cX11_explain 47 = .ok (.getfield 68, 3) := by decide +kernel
theorem dX11_explain_50 : decode cX11_explain 50 = .ok (.getfield 364, 3) := by decide +kernel
theorem dX11_explain_53 : decode cX11_explain 53 = .ok (.ireturn, 1) := by decide +kernel
theorem dX11_buyer_0 : decode cX11_buyer 0 = .ok (.aload_n 0, 1) := by decide +kernel
theorem dX11_buyer_1 : decode cX11_buyer 1 = .ok (.iload_n 1, 1) := by decide +kernel
theorem dX11_buyer_2 : decode cX11_buyer 2 = .ok (.invokevirtual 249, 3) := by decide +kernel
theorem dX11_buyer_5 : decode cX11_buyer 5 = .ok (.aload_n 0, 1) := by decide +kernel
theorem dX11_buyer_6 : decode cX11_buyer 6 = .ok (.iload_n 2, 1) := by decide +kernel
theorem dX11_buyer_7 : decode cX11_buyer 7 = .ok (.invokevirtual 109, 3) := by decide +kernel
theorem dX11_buyer_10 : decode cX11_buyer 10 = .ok (.iconst 1, 1) := by decide +kernel
theorem dX11_buyer_11 : decode cX11_buyer 11 = .ok (.istore 7, 2) := by decide +kernel
theorem dX11_buyer_13 : decode cX11_buyer 13 = .ok (.iload_n 3, 1) := by decide +kernel
theorem dX11_buyer_14 : decode cX11_buyer 14 = .ok (.iconst (-1), 1) := by decide +kernel
theorem dX11_buyer_15 : decode cX11_buyer 15 = .ok (.if_icmp .eq 41, 3) := by decide +kernel
theorem dX11_buyer_18 : decode cX11_buyer 18 = .ok (.aload_n 0, 1) := by decide +kernel
theorem dX11_buyer_19 : decode cX11_buyer 19 = .ok (.iload_n 3, 1) := by decide +kernel
theorem dX11_buyer_20 : decode cX11_buyer 20 = .ok (.invokevirtual 109, 3) := by decide +kernel
theorem dX11_buyer_23 : decode cX11_buyer 23 = .ok (.iconst 2, 1) := by decide +kernel
theorem dX11_buyer_24 : decode cX11_buyer 24 = .ok (.istore 7, 2) := by decide +kernel
theorem dX11_buyer_26 : decode cX11_buyer 26 = .ok (.iload 4, 2) := by decide +kernel
theorem dX11_buyer_28 : decode cX11_buyer 28 = .ok (.iconst (-1), 1) := by decide +kernel
theorem dX11_buyer_29 : decode cX11_buyer 29 = .ok (.if_icmp .eq 27, 3) := by decide +kernel
theorem dX11_buyer_32 : decode cX11_buyer 32 = .ok (.aload_n 0, 1) := by decide +kernel
theorem dX11_buyer_33 : decode cX11_buyer 33 = .ok (.iload 4, 2) := by decide +kernel
theorem dX11_buyer_35 : decode cX11_buyer 35 = .ok (.invokevirtual 109, 3) := by decide +kernel
theorem dX11_buyer_38 : decode cX11_buyer 38 = .ok (.iconst 3, 1) := by decide +kernel
theorem dX11_buyer_39 : decode cX11_buyer 39 = .ok (.istore 7, 2) := by decide +kernel
theorem dX11_buyer_41 : decode cX11_buyer 41 = .ok (.iload 5, 2) := by decide +kernel
theorem dX11_buyer_43 : decode cX11_buyer 43 = .ok (.iconst (-1), 1) := by decide +kernel
theorem dX11_buyer_44 : decode cX11_buyer 44 = .ok (.if_icmp .eq 12, 3) := by decide +kernel
theorem dX11_buyer_47 : decode cX11_buyer 47 = .ok (.aload_n 0, 1) := by decide +kernel
theorem dX11_buyer_48 : decode cX11_buyer 48 = .ok (.iload 5, 2) := by decide +kernel
theorem dX11_buyer_50 : decode cX11_buyer 50 = .ok (.invokevirtual 109, 3) := by decide +kernel
theorem dX11_buyer_53 : decode cX11_buyer 53 = .ok (.iconst 4, 1) := by decide +kernel
theorem dX11_buyer_54 : decode cX11_buyer 54 = .ok (.istore 7, 2) := by decide +kernel
theorem dX11_buyer_56 : decode cX11_buyer 56 = .ok (.iload 6, 2) := by decide +kernel
theorem dX11_buyer_58 : decode cX11_buyer 58 = .ok (.i2l, 1) := by decide +kernel
theorem dX11_buyer_59 : decode cX11_buyer 59 = .ok (.lconst 1, 1) := by decide +kernel
theorem dX11_buyer_60 : decode cX11_buyer 60 = .ok (.ldc2_w 127, 3) := by decide +kernel
theorem dX11_buyer_63 : decode cX11_buyer 63 = .ok (.invokestatic 93, 3) := by decide +kernel
theorem dX11_buyer_66 : decode cX11_buyer 66 = .ok (.invokestatic 97, 3) := by decide +kernel
theorem dX11_buyer_69 : decode cX11_buyer 69 = .ok (.aload_n 0, 1) := by decide +kernel
theorem dX11_buyer_70 : decode cX11_buyer 70 = .ok (.getfield 10, 3) := by decide +kernel
theorem dX11_buyer_73 : decode cX11_buyer 73 = .ok (.iload_n 1, 1) := by decide +kernel
theorem dX11_buyer_74 : decode cX11_buyer 74 = .ok (.iload 7, 2) := by decide +kernel
theorem dX11_buyer_76 : decode cX11_buyer 76 = .ok (.iload 6, 2) := by decide +kernel
theorem dX11_buyer_78 : decode cX11_buyer 78 = .ok (.invokevirtual 367, 3) := by decide +kernel
theorem dX11_buyer_81 : decode cX11_buyer 81 = .ok (.istore 8, 2) := by decide +kernel
theorem dX11_buyer_83 : decode cX11_buyer 83 = .ok (.iload 8, 2) := by decide +kernel
theorem dX11_buyer_85 : decode cX11_buyer 85 = .ok (.iconst (-1), 1) := by decide +kernel
theorem dX11_buyer_86 : decode cX11_buyer 86 = .ok (.if_icmp .eq 18, 3) := by decide +kernel
theorem dX11_buyer_89 : decode cX11_buyer 89 = .ok (.aload_n 0, 1) := by decide +kernel
theorem dX11_buyer_90 : decode cX11_buyer 90 = .ok (.getfield 10, 3) := by decide +kernel
theorem dX11_buyer_93 : decode cX11_buyer 93 = .ok (.iload 8, 2) := by decide +kernel
theorem dX11_buyer_95 : decode cX11_buyer 95 = .ok (.iload_n 2, 1) := by decide +kernel
theorem dX11_buyer_96 : decode cX11_buyer 96 = .ok (.iload_n 3, 1) := by decide +kernel
theorem dX11_buyer_97 : decode cX11_buyer 97 = .ok (.iload 4, 2) := by decide +kernel
theorem dX11_buyer_99 : decode cX11_buyer 99 = .ok (.iload 5, 2) := by decide +kernel
theorem dX11_buyer_101 : decode cX11_buyer 101 = .ok (.invokevirtual 370, 3) := by decide +kernel
theorem dX11_buyer_104 : decode cX11_buyer 104 = .ok (.iload 8, 2) := by decide +kernel
theorem dX11_buyer_106 : decode cX11_buyer 106 = .ok (.ireturn, 1) := by decide +kernel
theorem dX11_most_0 : decode cX11_most 0 = .ok (.iload_n 1, 1) := by decide +kernel
theorem dX11_most_1 : decode cX11_most 1 = .ok (.i2l, 1) := by decide +kernel
theorem dX11_most_2 : decode cX11_most 2 = .ok (.lconst 1, 1) := by decide +kernel
theorem dX11_most_3 : decode cX11_most 3 = .ok (.ldc2_w 141, 3) := by decide +kernel
theorem dX11_most_6 : decode cX11_most 6 = .ok (.invokestatic 93, 3) := by decide +kernel
theorem dX11_most_9 : decode cX11_most 9 = .ok (.invokestatic 97, 3) := by decide +kernel
theorem dX11_most_12 : decode cX11_most 12 = .ok (.aload_n 0, 1) := by decide +kernel
theorem dX11_most_13 : decode cX11_most 13 = .ok (.getfield 77, 3) := by decide +kernel
theorem dX11_most_16 : decode cX11_most 16 = .ok (.iload_n 1, 1) := by decide +kernel
theorem dX11_most_17 : decode cX11_most 17 = .ok (.invokevirtual 374, 3) := by decide +kernel
theorem dX11_most_20 : decode cX11_most 20 = .ok (.lreturn, 1) := by decide +kernel
theorem dX11_serve_0 : decode cX11_serve 0 = .ok (.iload_n 2, 1) := by decide +kernel
theorem dX11_serve_1 : decode cX11_serve 1 = .ok (.i2l, 1) := by decide +kernel
theorem dX11_serve_2 : decode cX11_serve 2 = .ok (.lconst 0, 1) := by decide +kernel
theorem dX11_serve_3 : decode cX11_serve 3 = .ok (.aload_n 0, 1) := by decide +kernel
theorem dX11_serve_4 : decode cX11_serve 4 = .ok (.getfield 10, 3) := by decide +kernel
theorem dX11_serve_7 : decode cX11_serve 7 = .ok (.getfield 377, 3) := by decide +kernel
theorem dX11_serve_10 : decode cX11_serve 10 = .ok (.iconst 1, 1) := by decide +kernel
theorem dX11_serve_11 : decode cX11_serve 11 = .ok (.isub, 1) := by decide +kernel
theorem dX11_serve_12 : decode cX11_serve 12 = .ok (.i2l, 1) := by decide +kernel
theorem dX11_serve_13 : decode cX11_serve 13 = .ok (.invokestatic 93, 3) := by decide +kernel
theorem dX11_serve_16 : decode cX11_serve 16 = .ok (.invokestatic 115, 3) := by decide +kernel
theorem dX11_serve_19 : decode cX11_serve 19 = .ok (.iload_n 1, 1) := by decide +kernel
theorem dX11_serve_20 : decode cX11_serve 20 = .ok (.i2l, 1) := by decide +kernel
theorem dX11_serve_21 : decode cX11_serve 21 = .ok (.lconst 1, 1) := by decide +kernel
theorem dX11_serve_22 : decode cX11_serve 22 = .ok (.ldc2_w 141, 3) := by decide +kernel
theorem dX11_serve_25 : decode cX11_serve 25 = .ok (.invokestatic 93, 3) := by decide +kernel
theorem dX11_serve_28 : decode cX11_serve 28 = .ok (.invokestatic 97, 3) := by decide +kernel
theorem dX11_serve_31 : decode cX11_serve 31 = .ok (.aload_n 0, 1) := by decide +kernel
theorem dX11_serve_32 : decode cX11_serve 32 = .ok (.getfield 77, 3) := by decide +kernel
theorem dX11_serve_35 : decode cX11_serve 35 = .ok (.iload_n 1, 1) := by decide +kernel
theorem dX11_serve_36 : decode cX11_serve 36 = .ok (.iload_n 2, 1) := by decide +kernel
theorem dX11_serve_37 : decode cX11_serve 37 = .ok (.invokevirtual 380, 3) := by decide +kernel
theorem dX11_serve_40 : decode cX11_serve 40 = .ok (.ireturn, 1) := by decide +kernel
theorem dX11_machine_0 : decode cX11_machine 0 = .ok (.iload_n 1, 1) := by decide +kernel
theorem dX11_machine_1 : decode cX11_machine 1 = .ok (.i2l, 1) := by decide +kernel
theorem dX11_machine_2 : decode cX11_machine 2 = .ok (.lconst 0, 1) := by decide +kernel
theorem dX11_machine_3 : decode cX11_machine 3 = .ok (.ldc2_w 383, 3) := by decide +kernel
theorem dX11_machine_6 : decode cX11_machine 6 = .ok (.invokestatic 93, 3) := by decide +kernel
theorem dX11_machine_9 : decode cX11_machine 9 = .ok (.invokestatic 97, 3) := by decide +kernel
theorem dX11_machine_12 : decode cX11_machine 12 = .ok (.iload_n 2, 1) := by decide +kernel
theorem dX11_machine_13 : decode cX11_machine 13 = .ok (.i2l, 1) := by decide +kernel
theorem dX11_machine_14 : decode cX11_machine 14 = .ok (.lconst 1, 1) := by decide +kernel
theorem dX11_machine_15 : decode cX11_machine 15 = .ok (.ldc2_w 383, 3) := by decide +kernel
theorem dX11_machine_18 : decode cX11_machine 18 = .ok (.invokestatic 93, 3) := by decide +kernel
theorem dX11_machine_21 : decode cX11_machine 21 = .ok (.invokestatic 97, 3) := by decide +kernel
theorem dX11_machine_24 : decode cX11_machine 24 = .ok (.aload_n 0, 1) := by decide +kernel
theorem dX11_machine_25 : decode cX11_machine 25 = .ok (.getfield 10, 3) := by decide +kernel
theorem dX11_machine_28 : decode cX11_machine 28 = .ok (.iload_n 1, 1) := by decide +kernel
theorem dX11_machine_29 : decode cX11_machine 29 = .ok (.iload_n 2, 1) := by decide +kernel
theorem dX11_machine_30 : decode cX11_machine 30 = .ok (.invokevirtual 385, 3) := by decide +kernel
theorem dX11_machine_33 : decode cX11_machine 33 = .ok (.ireturn, 1) := by decide +kernel
theorem dX11_rounds_0 : decode cX11_rounds 0 = .ok (.iload_n 1, 1) := by decide +kernel
theorem dX11_rounds_1 : decode cX11_rounds 1 = .ok (.i2l, 1) := by decide +kernel
theorem dX11_rounds_2 : decode cX11_rounds 2 = .ok (.lconst 1, 1) := by decide +kernel
theorem dX11_rounds_3 : decode cX11_rounds 3 = .ok (.ldc2_w 388, 3) := by decide +kernel
theorem dX11_rounds_6 : decode cX11_rounds 6 = .ok (.invokestatic 93, 3) := by decide +kernel
theorem dX11_rounds_9 : decode cX11_rounds 9 = .ok (.invokestatic 97, 3) := by decide +kernel
theorem dX11_rounds_12 : decode cX11_rounds 12 = .ok (.aload_n 0, 1) := by decide +kernel
theorem dX11_rounds_13 : decode cX11_rounds 13 = .ok (.getfield 10, 3) := by decide +kernel
theorem dX11_rounds_16 : decode cX11_rounds 16 = .ok (.getfield 390, 3) := by decide +kernel
theorem dX11_rounds_19 : decode cX11_rounds 19 = .ok (.ifCond .ne 5, 3) := by decide +kernel
theorem dX11_rounds_22 : decode cX11_rounds 22 = .ok (.iconst (-1), 1) := by decide +kernel
theorem dX11_rounds_23 : decode cX11_rounds 23 = .ok (.ireturn, 1) := by decide +kernel
theorem dX11_rounds_24 : decode cX11_rounds 24 = .ok (.iload_n 2, 1) := by decide +kernel
theorem dX11_rounds_25 : decode cX11_rounds 25 = .ok (.iconst (-1), 1) := by decide +kernel
theorem dX11_rounds_26 : decode cX11_rounds 26 = .ok (.if_icmp .ne 12, 3) := by decide +kernel
theorem dX11_rounds_29 : decode cX11_rounds 29 = .ok (.aload_n 0, 1) := by decide +kernel
theorem dX11_rounds_30 : decode cX11_rounds 30 = .ok (.getfield 86, 3) := by decide +kernel
theorem dX11_rounds_33 : decode cX11_rounds 33 = .ok (.iload_n 1, 1) := by decide +kernel
theorem dX11_rounds_34 : decode cX11_rounds 34 = .ok (.invokevirtual 393, 3) := by decide +kernel
theorem dX11_rounds_37 : decode cX11_rounds 37 = .ok (.ireturn, 1) := by decide +kernel
theorem dX11_rounds_38 : decode cX11_rounds 38 = .ok (.iload_n 2, 1) := by decide +kernel
theorem dX11_rounds_39 : decode cX11_rounds 39 = .ok (.i2l, 1) := by decide +kernel
theorem dX11_rounds_40 : decode cX11_rounds 40 = .ok (.lconst 0, 1) := by decide +kernel
theorem dX11_rounds_41 : decode cX11_rounds 41 = .ok (.iload_n 1, 1) := by decide +kernel
theorem dX11_rounds_42 : decode cX11_rounds 42 = .ok (.iconst 1, 1) := by decide +kernel
theorem dX11_rounds_43 : decode cX11_rounds 43 = .ok (.isub, 1) := by decide +kernel
theorem dX11_rounds_44 : decode cX11_rounds 44 = .ok (.i2l, 1) := by decide +kernel
theorem dX11_rounds_45 : decode cX11_rounds 45 = .ok (.invokestatic 93, 3) := by decide +kernel
theorem dX11_rounds_48 : decode cX11_rounds 48 = .ok (.ifCond .eq 15, 3) := by decide +kernel
theorem dX11_rounds_51 : decode cX11_rounds 51 = .ok (.aload_n 0, 1) := by decide +kernel
theorem dX11_rounds_52 : decode cX11_rounds 52 = .ok (.getfield 86, 3) := by decide +kernel
theorem dX11_rounds_55 : decode cX11_rounds 55 = .ok (.iload_n 1, 1) := by decide +kernel
theorem dX11_rounds_56 : decode cX11_rounds 56 = .ok (.iload_n 2, 1) := by decide +kernel
theorem dX11_rounds_57 : decode cX11_rounds 57 = .ok (.invokevirtual 396, 3) := by decide +kernel
theorem dX11_rounds_60 : decode cX11_rounds 60 = .ok (.goto 4, 3) := by decide +kernel
theorem dX11_rounds_63 : decode cX11_rounds 63 = .ok (.iconst (-1), 1) := by decide +kernel
theorem dX11_rounds_64 : decode cX11_rounds 64 = .ok (.ireturn, 1) := by decide +kernel
theorem dX11_tray_0 : decode cX11_tray 0 = .ok (.iload_n 1, 1) := by decide +kernel
theorem dX11_tray_1 : decode cX11_tray 1 = .ok (.i2l, 1) := by decide +kernel
theorem dX11_tray_2 : decode cX11_tray 2 = .ok (.lconst 0, 1) := by decide +kernel
theorem dX11_tray_3 : decode cX11_tray 3 = .ok (.ldc2_w 141, 3) := by decide +kernel
theorem dX11_tray_6 : decode cX11_tray 6 = .ok (.invokestatic 93, 3) := by decide +kernel
theorem dX11_tray_9 : decode cX11_tray 9 = .ok (.invokestatic 115, 3) := by decide +kernel
theorem dX11_tray_12 : decode cX11_tray 12 = .ok (.iload_n 2, 1) := by decide +kernel
theorem dX11_tray_13 : decode cX11_tray 13 = .ok (.i2l, 1) := by decide +kernel
theorem dX11_tray_14 : decode cX11_tray 14 = .ok (.lconst 0, 1) := by decide +kernel
theorem dX11_tray_15 : decode cX11_tray 15 = .ok (.ldc2_w 141, 3) := by decide +kernel
theorem dX11_tray_18 : decode cX11_tray 18 = .ok (.invokestatic 93, 3) := by decide +kernel
theorem dX11_tray_21 : decode cX11_tray 21 = .ok (.invokestatic 97, 3) := by decide +kernel
theorem dX11_tray_24 : decode cX11_tray 24 = .ok (.iload_n 3, 1) := by decide +kernel
theorem dX11_tray_25 : decode cX11_tray 25 = .ok (.i2l, 1) := by decide +kernel
theorem dX11_tray_26 : decode cX11_tray 26 = .ok (.lconst 0, 1) := by decide +kernel
theorem dX11_tray_27 : decode cX11_tray 27 = .ok (.ldc2_w 143, 3) := by decide +kernel
theorem dX11_tray_30 : decode cX11_tray 30 = .ok (.invokestatic 93, 3) := by decide +kernel
theorem dX11_tray_33 : decode cX11_tray 33 = .ok (.invokestatic 97, 3) := by decide +kernel
theorem dX11_tray_36 : decode cX11_tray 36 = .ok (.aload_n 0, 1) := by decide +kernel
theorem dX11_tray_37 : decode cX11_tray 37 = .ok (.getfield 26, 3) := by decide +kernel
theorem dX11_tray_40 : decode cX11_tray 40 = .ok (.iload_n 1, 1) := by decide +kernel
theorem dX11_tray_41 : decode cX11_tray 41 = .ok (.aaload, 1) := by decide +kernel
theorem dX11_tray_42 : decode cX11_tray 42 = .ok (.iload_n 2, 1) := by decide +kernel
theorem dX11_tray_43 : decode cX11_tray 43 = .ok (.iload_n 3, 1) := by decide +kernel
theorem dX11_tray_44 : decode cX11_tray 44 = .ok (.invokevirtual 399, 3) := by decide +kernel
theorem dX11_tray_47 : decode cX11_tray 47 = .ok (.return_, 1) := by decide +kernel
theorem dX11_write_0 : decode cX11_write 0 = .ok (.aload_n 0, 1) := by decide +kernel
theorem dX11_write_1 : decode cX11_write 1 = .ok (.iload_n 1, 1) := by decide +kernel
theorem dX11_write_2 : decode cX11_write 2 = .ok (.invokevirtual 402, 3) := by decide +kernel
theorem dX11_write_5 : decode cX11_write 5 = .ok (.astore 5, 2) := by decide +kernel
theorem dX11_write_7 : decode cX11_write 7 = .ok (.iload_n 2, 1) := by decide +kernel
theorem dX11_write_8 : decode cX11_write 8 = .ok (.i2l, 1) := by decide +kernel
theorem dX11_write_9 : decode cX11_write 9 = .ok (.lconst 0, 1) := by decide +kernel
theorem dX11_write_10 : decode cX11_write 10 = .ok (.aload 5, 2) := by decide +kernel
theorem dX11_write_12 : decode cX11_write 12 = .ok (.getfield 406, 3) := by decide +kernel
theorem dX11_write_15 : decode cX11_write 15 = .ok (.iconst 1, 1) := by decide +kernel
theorem dX11_write_16 : decode cX11_write 16 = .ok (.isub, 1) := by decide +kernel
theorem dX11_write_17 : decode cX11_write 17 = .ok (.i2l, 1) := by decide +kernel
theorem dX11_write_18 : decode cX11_write 18 = .ok (.invokestatic 93, 3) := by decide +kernel
theorem dX11_write_21 : decode cX11_write 21 = .ok (.ifCond .ne 14, 3) := by decide +kernel
theorem dX11_write_24 : decode cX11_write 24 = .ok (.new 407, 3) := by decide +kernel
theorem dX11_write_27 : decode cX11_write 27 = .ok (.dup, 1) := by decide +kernel
theorem dX11_write_28 : decode cX11_write 28 = .ok (.ldc_w 409, 3) := by decide +kernel
theorem dX11_write_31 : decode cX11_write 31 = .ok (.invokespecial 411, 3) := by decide +kernel
theorem dX11_write_34 : decode cX11_write 34 = .ok (.athrow, 1) := by decide +kernel
theorem dX11_write_35 : decode cX11_write 35 = .ok (.aload 5, 2) := by decide +kernel
theorem dX11_write_37 : decode cX11_write 37 = .ok (.getfield 414, 3) := by decide +kernel
theorem dX11_write_40 : decode cX11_write 40 = .ok (.iload_n 2, 1) := by decide +kernel
theorem dX11_write_41 : decode cX11_write 41 = .ok (.aload 5, 2) := by decide +kernel
theorem dX11_write_43 : decode cX11_write 43 = .ok (.lload_n 3, 1) := by decide +kernel
theorem dX11_write_44 : decode cX11_write 44 = .ok (.invokevirtual 417, 3) := by decide +kernel
theorem dX11_write_47 : decode cX11_write 47 = .ok (.lastore, 1) := by decide +kernel
theorem dX11_write_48 : decode cX11_write 48 = .ok (.aload 5, 2) := by decide +kernel
theorem dX11_write_50 : decode cX11_write 50 = .ok (.getfield 414, 3) := by decide +kernel
theorem dX11_write_53 : decode cX11_write 53 = .ok (.iload_n 2, 1) := by decide +kernel
theorem dX11_write_54 : decode cX11_write 54 = .ok (.laload, 1) := by decide +kernel
theorem dX11_write_55 : decode cX11_write 55 = .ok (.lreturn, 1) := by decide +kernel
theorem dX11_pour_0 : decode cX11_pour 0 = .ok (.aload_n 0, 1) := by decide +kernel
theorem dX11_pour_1 : decode cX11_pour 1 = .ok (.iload_n 2, 1) := by decide +kernel
theorem dX11_pour_2 : decode cX11_pour 2 = .ok (.invokevirtual 109, 3) := by decide +kernel
theorem dX11_pour_5 : decode cX11_pour 5 = .ok (.aload_n 0, 1) := by decide +kernel
theorem dX11_pour_6 : decode cX11_pour 6 = .ok (.iload_n 1, 1) := by decide +kernel
theorem dX11_pour_7 : decode cX11_pour 7 = .ok (.invokevirtual 402, 3) := by decide +kernel
theorem dX11_pour_10 : decode cX11_pour 10 = .ok (.astore_n 3, 1) := by decide +kernel
theorem dX11_pour_11 : decode cX11_pour 11 = .ok (.aload_n 3, 1) := by decide +kernel
theorem dX11_pour_12 : decode cX11_pour 12 = .ok (.aload_n 0, 1) := by decide +kernel
theorem dX11_pour_13 : decode cX11_pour 13 = .ok (.getfield 10, 3) := by decide +kernel
theorem dX11_pour_16 : decode cX11_pour 16 = .ok (.getfield 39, 3) := by decide +kernel
theorem dX11_pour_19 : decode cX11_pour 19 = .ok (.getfield 302, 3) := by decide +kernel
theorem dX11_pour_22 : decode cX11_pour 22 = .ok (.invokevirtual 421, 3) := by decide +kernel
theorem dX11_pour_25 : decode cX11_pour 25 = .ok (.invokestatic 97, 3) := by decide +kernel
theorem dX11_pour_28 : decode cX11_pour 28 = .ok (.aload_n 0, 1) := by decide +kernel
theorem dX11_pour_29 : decode cX11_pour 29 = .ok (.getfield 10, 3) := by decide +kernel
theorem dX11_pour_32 : decode cX11_pour 32 = .ok (.getfield 255, 3) := by decide +kernel
theorem dX11_pour_35 : decode cX11_pour 35 = .ok (.iload_n 2, 1) := by decide +kernel
theorem dX11_pour_36 : decode cX11_pour 36 = .ok (.aload_n 3, 1) := by decide +kernel
theorem dX11_pour_37 : decode cX11_pour 37 = .ok (.getfield 406, 3) := by decide +kernel
theorem dX11_pour_40 : decode cX11_pour 40 = .ok (.invokevirtual 259, 3) := by decide +kernel
theorem dX11_pour_43 : decode cX11_pour 43 = .ok (.ifCond .ne 5, 3) := by decide +kernel
theorem dX11_pour_46 : decode cX11_pour 46 = .ok (.iconst (-1), 1) := by decide +kernel
theorem dX11_pour_47 : decode cX11_pour 47 = .ok (.ireturn, 1) := by decide +kernel
theorem dX11_pour_48 : decode cX11_pour 48 = .ok (.iconst 0, 1) := by decide +kernel
theorem dX11_pour_49 : decode cX11_pour 49 = .ok (.istore 4, 2) := by decide +kernel
theorem dX11_pour_51 : decode cX11_pour 51 = .ok (.iload 4, 2) := by decide +kernel
theorem dX11_pour_53 : decode cX11_pour 53 = .ok (.aload_n 3, 1) := by decide +kernel
theorem dX11_pour_54 : decode cX11_pour 54 = .ok (.getfield 406, 3) := by decide +kernel
theorem dX11_pour_57 : decode cX11_pour 57 = .ok (.if_icmp .ge 28, 3) := by decide +kernel
theorem dX11_pour_60 : decode cX11_pour 60 = .ok (.aload_n 0, 1) := by decide +kernel
theorem dX11_pour_61 : decode cX11_pour 61 = .ok (.getfield 10, 3) := by decide +kernel
theorem dX11_pour_64 : decode cX11_pour 64 = .ok (.getfield 255, 3) := by decide +kernel
theorem dX11_pour_67 : decode cX11_pour 67 = .ok (.iload_n 2, 1) := by decide +kernel
theorem dX11_pour_68 : decode cX11_pour 68 = .ok (.aload_n 3, 1) := by decide +kernel
theorem dX11_pour_69 : decode cX11_pour 69 = .ok (.getfield 414, 3) := by decide +kernel
theorem dX11_pour_72 : decode cX11_pour 72 = .ok (.iload 4, 2) := by decide +kernel
theorem dX11_pour_74 : decode cX11_pour 74 = .ok (.laload, 1) := by decide +kernel
theorem dX11_pour_75 : decode cX11_pour 75 = .ok (.l2i, 1) := by decide +kernel
theorem dX11_pour_76 : decode cX11_pour 76 = .ok (.invokevirtual 264, 3) := by decide +kernel
theorem dX11_pour_79 : decode cX11_pour 79 = .ok (.iinc 4 1, 3) := by decide +kernel
theorem dX11_pour_82 : decode cX11_pour 82 = .ok (.goto (-31), 3) := by decide +kernel
theorem dX11_pour_85 : decode cX11_pour 85 = .ok (.aload_n 0, 1) := by decide +kernel
theorem dX11_pour_86 : decode cX11_pour 86 = .ok (.getfield 10, 3) := by decide +kernel
theorem dX11_pour_89 : decode cX11_pour 89 = .ok (.getfield 255, 3) := by decide +kernel
theorem dX11_pour_92 : decode cX11_pour 92 = .ok (.getfield 268, 3) := by decide +kernel
theorem dX11_pour_95 : decode cX11_pour 95 = .ok (.iload_n 2, 1) := by decide +kernel
theorem dX11_pour_96 : decode cX11_pour 96 = .ok (.iaload, 1) := by decide +kernel
theorem dX11_pour_97 : decode cX11_pour 97 = .ok (.ireturn, 1) := by decide +kernel
theorem dX11_image_0 : decode cX11_image 0 = .ok (.iload_n 1, 1) := by decide +kernel
theorem dX11_image_1 : decode cX11_image 1 = .ok (.i2l, 1) := by decide +kernel
theorem dX11_image_2 : decode cX11_image 2 = .ok (.lconst 0, 1) := by decide +kernel
theorem dX11_image_3 : decode cX11_image 3 = .ok (.ldc2_w 113, 3) := by decide +kernel
theorem dX11_image_6 : decode cX11_image 6 = .ok (.invokestatic 93, 3) := by decide +kernel
theorem dX11_image_9 : decode cX11_image 9 = .ok (.invokestatic 115, 3) := by decide +kernel
theorem dX11_image_12 : decode cX11_image 12 = .ok (.aload_n 0, 1) := by decide +kernel
theorem dX11_image_13 : decode cX11_image 13 = .ok (.getfield 16, 3) := by decide +kernel
theorem dX11_image_16 : decode cX11_image 16 = .ok (.iload_n 1, 1) := by decide +kernel
theorem dX11_image_17 : decode cX11_image 17 = .ok (.aaload, 1) := by decide +kernel
theorem dX11_image_18 : decode cX11_image 18 = .ok (.aload_n 0, 1) := by decide +kernel
theorem dX11_image_19 : decode cX11_image 19 = .ok (.getfield 10, 3) := by decide +kernel
theorem dX11_image_22 : decode cX11_image 22 = .ok (.invokevirtual 424, 3) := by decide +kernel
theorem dX11_image_25 : decode cX11_image 25 = .ok (.aload_n 0, 1) := by decide +kernel
theorem dX11_image_26 : decode cX11_image 26 = .ok (.getfield 20, 3) := by decide +kernel
theorem dX11_image_29 : decode cX11_image 29 = .ok (.iload_n 1, 1) := by decide +kernel
theorem dX11_image_30 : decode cX11_image 30 = .ok (.iconst 1, 1) := by decide +kernel
theorem dX11_image_31 : decode cX11_image 31 = .ok (.bastore, 1) := by decide +kernel
theorem dX11_image_32 : decode cX11_image 32 = .ok (.return_, 1) := by decide +kernel
theorem dX11_restore_0 : decode cX11_restore 0 = .ok (.iload_n 1, 1) := by decide +kernel
theorem dX11_restore_1 : decode cX11_restore 1 = .ok (.i2l, 1) := by decide +kernel
theorem dX11_restore_2 : decode cX11_restore 2 = .ok (.lconst 0, 1) := by decide +kernel
theorem dX11_restore_3 : decode cX11_restore 3 = .ok (.ldc2_w 113, 3) := by decide +kernel
theorem dX11_restore_6 : decode cX11_restore 6 = .ok (.invokestatic 93, 3) := by decide +kernel
theorem dX11_restore_9 : decode cX11_restore 9 = .ok (.invokestatic 115, 3) := by decide +kernel
theorem dX11_restore_12 : decode cX11_restore 12 = .ok (.aload_n 0, 1) := by decide +kernel
theorem dX11_restore_13 : decode cX11_restore 13 = .ok (.getfield 20, 3) := by decide +kernel
theorem dX11_restore_16 : decode cX11_restore 16 = .ok (.iload_n 1, 1) := by decide +kernel
theorem dX11_restore_17 : decode cX11_restore 17 = .ok (.baload, 1) := by decide +kernel
theorem dX11_restore_18 : decode cX11_restore 18 = .ok (.ifCond .ne 14, 3) := by decide +kernel
theorem dX11_restore_21 : decode cX11_restore 21 = .ok (.new 426, 3) := by decide +kernel
theorem dX11_restore_24 : decode cX11_restore 24 = .ok (.dup, 1) := by decide +kernel
theorem dX11_restore_25 : decode cX11_restore 25 = .ok (.ldc_w 428, 3) := by decide +kernel
theorem dX11_restore_28 : decode cX11_restore 28 = .ok (.invokespecial 430, 3) := by decide +kernel
theorem dX11_restore_31 : decode cX11_restore 31 = .ok (.athrow, 1) := by decide +kernel
theorem dX11_restore_32 : decode cX11_restore 32 = .ok (.aload_n 0, 1) := by decide +kernel
theorem dX11_restore_33 : decode cX11_restore 33 = .ok (.getfield 10, 3) := by decide +kernel
theorem dX11_restore_36 : decode cX11_restore 36 = .ok (.aload_n 0, 1) := by decide +kernel
theorem dX11_restore_37 : decode cX11_restore 37 = .ok (.getfield 16, 3) := by decide +kernel
theorem dX11_restore_40 : decode cX11_restore 40 = .ok (.iload_n 1, 1) := by decide +kernel
theorem dX11_restore_41 : decode cX11_restore 41 = .ok (.aaload, 1) := by decide +kernel
theorem dX11_restore_42 : decode cX11_restore 42 = .ok (.invokevirtual 424, 3) := by decide +kernel
theorem dX11_restore_45 : decode cX11_restore 45 = .ok (.return_, 1) := by decide +kernel
theorem dX11_count_0 : decode cX11_count 0 = .ok (.iload_n 1, 1) := by decide +kernel
theorem dX11_count_1 : decode cX11_count 1 = .ok (.tableswitch 123 0 7 #[47, 58, 69, 77, 88, 96, 104, 112], 47) := by decide +kernel
theorem dX11_count_48 : decode cX11_count 48 = .ok (.aload_n 0, 1) := by decide +kernel
theorem dX11_count_49 : decode cX11_count 49 = .ok (.getfield 10, 3) := by decide +kernel
theorem dX11_count_52 : decode cX11_count 52 = .ok (.getfield 39, 3) := by decide +kernel
theorem dX11_count_55 : decode cX11_count 55 = .ok (.getfield 302, 3) := by decide +kernel
theorem dX11_count_58 : decode cX11_count 58 = .ok (.ireturn, 1) := by decide +kernel
theorem dX11_count_59 : decode cX11_count 59 = .ok (.aload_n 0, 1) := by decide +kernel
theorem dX11_count_60 : decode cX11_count 60 = .ok (.getfield 10, 3) := by decide +kernel
theorem dX11_count_63 : decode cX11_count 63 = .ok (.getfield 43, 3) := by decide +kernel
theorem dX11_count_66 : decode cX11_count 66 = .ok (.getfield 182, 3) := by decide +kernel
theorem dX11_count_69 : decode cX11_count 69 = .ok (.ireturn, 1) := by decide +kernel
theorem dX11_count_70 : decode cX11_count 70 = .ok (.aload_n 0, 1) := by decide +kernel
theorem dX11_count_71 : decode cX11_count 71 = .ok (.getfield 10, 3) := by decide +kernel
theorem dX11_count_74 : decode cX11_count 74 = .ok (.getfield 431, 3) := by decide +kernel
theorem dX11_count_77 : decode cX11_count 77 = .ok (.ireturn, 1) := by decide +kernel
theorem dX11_count_78 : decode cX11_count 78 = .ok (.aload_n 0, 1) := by decide +kernel
theorem dX11_count_79 : decode cX11_count 79 = .ok (.getfield 10, 3) := by decide +kernel
theorem dX11_count_82 : decode cX11_count 82 = .ok (.getfield 255, 3) := by decide +kernel
theorem dX11_count_85 : decode cX11_count 85 = .ok (.getfield 278, 3) := by decide +kernel
theorem dX11_count_88 : decode cX11_count 88 = .ok (.ireturn, 1) := by decide +kernel
theorem dX11_count_89 : decode cX11_count 89 = .ok (.aload_n 0, 1) := by decide +kernel
theorem dX11_count_90 : decode cX11_count 90 = .ok (.getfield 10, 3) := by decide +kernel
theorem dX11_count_93 : decode cX11_count 93 = .ok (.getfield 377, 3) := by decide +kernel
theorem dX11_count_96 : decode cX11_count 96 = .ok (.ireturn, 1) := by decide +kernel
theorem dX11_count_97 : decode cX11_count 97 = .ok (.aload_n 0, 1) := by decide +kernel
theorem dX11_count_98 : decode cX11_count 98 = .ok (.getfield 10, 3) := by decide +kernel
theorem dX11_count_101 : decode cX11_count 101 = .ok (.getfield 390, 3) := by decide +kernel
theorem dX11_count_104 : decode cX11_count 104 = .ok (.ireturn, 1) := by decide +kernel
theorem dX11_count_105 : decode cX11_count 105 = .ok (.aload_n 0, 1) := by decide +kernel
theorem dX11_count_106 : decode cX11_count 106 = .ok (.getfield 33, 3) := by decide +kernel
theorem dX11_count_109 : decode cX11_count 109 = .ok (.getfield 163, 3) := by decide +kernel
theorem dX11_count_112 : decode cX11_count 112 = .ok (.ireturn, 1) := by decide +kernel
theorem dX11_count_113 : decode cX11_count 113 = .ok (.aload_n 0, 1) := by decide +kernel
theorem dX11_count_114 : decode cX11_count 114 = .ok (.getfield 10, 3) := by decide +kernel
theorem dX11_count_117 : decode cX11_count 117 = .ok (.getfield 255, 3) := by decide +kernel
theorem dX11_count_120 : decode cX11_count 120 = .ok (.getfield 299, 3) := by decide +kernel
theorem dX11_count_123 : decode cX11_count 123 = .ok (.ireturn, 1) := by decide +kernel
theorem dX11_count_124 : decode cX11_count 124 = .ok (.iconst (-1), 1) := by decide +kernel
theorem dX11_count_125 : decode cX11_count 125 = .ok (.ireturn, 1) := by decide +kernel
theorem dX11_within_0 : decode cX11_within 0 = .ok (.lload_n 0, 1) := by decide +kernel
theorem dX11_within_1 : decode cX11_within 1 = .ok (.lload_n 2, 1) := by decide +kernel
theorem dX11_within_2 : decode cX11_within 2 = .ok (.lcmp, 1) := by decide +kernel
theorem dX11_within_3 : decode cX11_within 3 = .ok (.ifCond .lt 14, 3) := by decide +kernel
theorem dX11_within_6 : decode cX11_within 6 = .ok (.lload_n 0, 1) := by decide +kernel
theorem dX11_within_7 : decode cX11_within 7 = .ok (.lload 4, 2) := by decide +kernel
theorem dX11_within_9 : decode cX11_within 9 = .ok (.lcmp, 1) := by decide +kernel
theorem dX11_within_10 : decode cX11_within 10 = .ok (.ifCond .gt 7, 3) := by decide +kernel
theorem dX11_within_13 : decode cX11_within 13 = .ok (.iconst 1, 1) := by decide +kernel
theorem dX11_within_14 : decode cX11_within 14 = .ok (.goto 4, 3) := by decide +kernel
theorem dX11_within_17 : decode cX11_within 17 = .ok (.iconst 0, 1) := by decide +kernel
theorem dX11_within_18 : decode cX11_within 18 = .ok (.ireturn, 1) := by decide +kernel
theorem dX11_need_0 : decode cX11_need 0 = .ok (.iload_n 0, 1) := by decide +kernel
theorem dX11_need_1 : decode cX11_need 1 = .ok (.ifCond .ne 14, 3) := by decide +kernel
theorem dX11_need_4 : decode cX11_need 4 = .ok (.new 434, 3) := by decide +kernel
theorem dX11_need_7 : decode cX11_need 7 = .ok (.dup, 1) := by decide +kernel
theorem dX11_need_8 : decode cX11_need 8 = .ok (.ldc_w 436, 3) := by decide +kernel
theorem dX11_need_11 : decode cX11_need 11 = .ok (.invokespecial 438, 3) := by decide +kernel
theorem dX11_need_14 : decode cX11_need 14 = .ok (.athrow, 1) := by decide +kernel
theorem dX11_need_15 : decode cX11_need 15 = .ok (.return_, 1) := by decide +kernel
theorem dX11_needThere_0 : decode cX11_needThere 0 = .ok (.iload_n 0, 1) := by decide +kernel
theorem dX11_needThere_1 : decode cX11_needThere 1 = .ok (.ifCond .ne 14, 3) := by decide +kernel
theorem dX11_needThere_4 : decode cX11_needThere 4 = .ok (.new 439, 3) := by decide +kernel
theorem dX11_needThere_7 : decode cX11_needThere 7 = .ok (.dup, 1) := by decide +kernel
theorem dX11_needThere_8 : decode cX11_needThere 8 = .ok (.ldc_w 441, 3) := by decide +kernel
theorem dX11_needThere_11 : decode cX11_needThere 11 = .ok (.invokespecial 443, 3) := by decide +kernel
theorem dX11_needThere_14 : decode cX11_needThere 14 = .ok (.athrow, 1) := by decide +kernel
theorem dX11_needThere_15 : decode cX11_needThere 15 = .ok (.return_, 1) := by decide +kernel
theorem dX11_needSort_0 : decode cX11_needSort 0 = .ok (.aload_n 0, 1) := by decide +kernel
theorem dX11_needSort_1 : decode cX11_needSort 1 = .ok (.getfield 10, 3) := by decide +kernel
theorem dX11_needSort_4 : decode cX11_needSort 4 = .ok (.getfield 39, 3) := by decide +kernel
theorem dX11_needSort_7 : decode cX11_needSort 7 = .ok (.iload_n 1, 1) := by decide +kernel
theorem dX11_needSort_8 : decode cX11_needSort 8 = .ok (.invokevirtual 203, 3) := by decide +kernel
theorem dX11_needSort_11 : decode cX11_needSort 11 = .ok (.invokestatic 115, 3) := by decide +kernel
theorem dX11_needSort_14 : decode cX11_needSort 14 = .ok (.return_, 1) := by decide +kernel
theorem dX11_needGate_0 : decode cX11_needGate 0 = .ok (.iload_n 1, 1) := by decide +kernel
theorem dX11_needGate_1 : decode cX11_needGate 1 = .ok (.i2l, 1) := by decide +kernel
theorem dX11_needGate_2 : decode cX11_needGate 2 = .ok (.lconst 0, 1) := by decide +kernel
theorem dX11_needGate_3 : decode cX11_needGate 3 = .ok (.aload_n 0, 1) := by decide +kernel
theorem dX11_needGate_4 : decode cX11_needGate 4 = .ok (.getfield 10, 3) := by decide +kernel
theorem dX11_needGate_7 : decode cX11_needGate 7 = .ok (.getfield 43, 3) := by decide +kernel
theorem dX11_needGate_10 : decode cX11_needGate 10 = .ok (.getfield 182, 3) := by decide +kernel
theorem dX11_needGate_13 : decode cX11_needGate 13 = .ok (.iconst 1, 1) := by decide +kernel
theorem dX11_needGate_14 : decode cX11_needGate 14 = .ok (.isub, 1) := by decide +kernel
theorem dX11_needGate_15 : decode cX11_needGate 15 = .ok (.i2l, 1) := by decide +kernel
theorem dX11_needGate_16 : decode cX11_needGate 16 = .ok (.invokestatic 93, 3) := by decide +kernel
theorem dX11_needGate_19 : decode cX11_needGate 19 = .ok (.invokestatic 115, 3) := by decide +kernel
theorem dX11_needGate_22 : decode cX11_needGate 22 = .ok (.return_, 1) := by decide +kernel
theorem dX11_needGood_0 : decode cX11_needGood 0 = .ok (.iload_n 1, 1) := by decide +kernel
theorem dX11_needGood_1 : decode cX11_needGood 1 = .ok (.i2l, 1) := by decide +kernel
theorem dX11_needGood_2 : decode cX11_needGood 2 = .ok (.lconst 0, 1) := by decide +kernel
theorem dX11_needGood_3 : decode cX11_needGood 3 = .ok (.aload_n 0, 1) := by decide +kernel
theorem dX11_needGood_4 : decode cX11_needGood 4 = .ok (.getfield 10, 3) := by decide +kernel
theorem dX11_needGood_7 : decode cX11_needGood 7 = .ok (.getfield 431, 3) := by decide +kernel
theorem dX11_needGood_10 : decode cX11_needGood 10 = .ok (.iconst 1, 1) := by decide +kernel
theorem dX11_needGood_11 : decode cX11_needGood 11 = .ok (.isub, 1) := by decide +kernel
theorem dX11_needGood_12 : decode cX11_needGood 12 = .ok (.i2l, 1) := by decide +kernel
theorem dX11_needGood_13 : decode cX11_needGood 13 = .ok (.invokestatic 93, 3) := by decide +kernel
theorem dX11_needGood_16 : decode cX11_needGood 16 = .ok (.invokestatic 115, 3) := by decide +kernel
theorem dX11_needGood_19 : decode cX11_needGood 19 = .ok (.return_, 1) := by decide +kernel
theorem dX11_needMove_0 : decode cX11_needMove 0 = .ok (.aload_n 0, 1) := by decide +kernel
theorem dX11_needMove_1 : decode cX11_needMove 1 = .ok (.iload_n 1, 1) := by decide +kernel
theorem dX11_needMove_2 : decode cX11_needMove 2 = .ok (.invokevirtual 188, 3) := by decide +kernel
theorem dX11_needMove_5 : decode cX11_needMove 5 = .ok (.iload_n 2, 1) := by decide +kernel
theorem dX11_needMove_6 : decode cX11_needMove 6 = .ok (.i2l, 1) := by decide +kernel
theorem dX11_needMove_7 : decode cX11_needMove 7 = .ok (.ldc2_w 444, 3) := by decide +kernel
theorem dX11_needMove_10 : decode cX11_needMove 10 = .ok (.ldc2_w 118, 3) := by decide +kernel
theorem dX11_needMove_13 : decode cX11_needMove 13 = .ok (.invokestatic 93, 3) := by decide +kernel
theorem dX11_needMove_16 : decode cX11_needMove 16 = .ok (.invokestatic 97, 3) := by decide +kernel
theorem dX11_needMove_19 : decode cX11_needMove 19 = .ok (.iload_n 3, 1) := by decide +kernel
theorem dX11_needMove_20 : decode cX11_needMove 20 = .ok (.i2l, 1) := by decide +kernel
theorem dX11_needMove_21 : decode cX11_needMove 21 = .ok (.ldc2_w 444, 3) := by decide +kernel
theorem dX11_needMove_24 : decode cX11_needMove 24 = .ok (.ldc2_w 118, 3) := by decide +kernel
theorem dX11_needMove_27 : decode cX11_needMove 27 = .ok (.invokestatic 93, 3) := by decide +kernel
theorem dX11_needMove_30 : decode cX11_needMove 30 = .ok (.invokestatic 97, 3) := by decide +kernel
theorem dX11_needMove_33 : decode cX11_needMove 33 = .ok (.return_, 1) := by decide +kernel
theorem dX11_trayAt_0 : decode cX11_trayAt 0 = .ok (.iload_n 1, 1) := by decide +kernel
theorem dX11_trayAt_1 : decode cX11_trayAt 1 = .ok (.i2l, 1) := by decide +kernel
theorem dX11_trayAt_2 : decode cX11_trayAt 2 = .ok (.lconst 0, 1) := by decide +kernel
theorem dX11_trayAt_3 : decode cX11_trayAt 3 = .ok (.ldc2_w 141, 3) := by decide +kernel
theorem dX11_trayAt_6 : decode cX11_trayAt 6 = .ok (.invokestatic 93, 3) := by decide +kernel
theorem dX11_trayAt_9 : decode cX11_trayAt 9 = .ok (.invokestatic 115, 3) := by decide +kernel
theorem dX11_trayAt_12 : decode cX11_trayAt 12 = .ok (.aload_n 0, 1) := by decide +kernel
theorem dX11_trayAt_13 : decode cX11_trayAt 13 = .ok (.getfield 26, 3) := by decide +kernel
theorem dX11_trayAt_16 : decode cX11_trayAt 16 = .ok (.iload_n 1, 1) := by decide +kernel
theorem dX11_trayAt_17 : decode cX11_trayAt 17 = .ok (.aaload, 1) := by decide +kernel
theorem dX11_trayAt_18 : decode cX11_trayAt 18 = .ok (.getfield 446, 3) := by decide +kernel
theorem dX11_trayAt_21 : decode cX11_trayAt 21 = .ok (.iconst (-1), 1) := by decide +kernel
theorem dX11_trayAt_22 : decode cX11_trayAt 22 = .ok (.if_icmp .ne 14, 3) := by decide +kernel
theorem dX11_trayAt_25 : decode cX11_trayAt 25 = .ok (.new 426, 3) := by decide +kernel
theorem dX11_trayAt_28 : decode cX11_trayAt 28 = .ok (.dup, 1) := by decide +kernel
theorem dX11_trayAt_29 : decode cX11_trayAt 29 = .ok (.ldc_w 449, 3) := by decide +kernel
theorem dX11_trayAt_32 : decode cX11_trayAt 32 = .ok (.invokespecial 430, 3) := by decide +kernel
theorem dX11_trayAt_35 : decode cX11_trayAt 35 = .ok (.athrow, 1) := by decide +kernel
theorem dX11_trayAt_36 : decode cX11_trayAt 36 = .ok (.aload_n 0, 1) := by decide +kernel
theorem dX11_trayAt_37 : decode cX11_trayAt 37 = .ok (.getfield 26, 3) := by decide +kernel
theorem dX11_trayAt_40 : decode cX11_trayAt 40 = .ok (.iload_n 1, 1) := by decide +kernel
theorem dX11_trayAt_41 : decode cX11_trayAt 41 = .ok (.aaload, 1) := by decide +kernel
theorem dX11_trayAt_42 : decode cX11_trayAt 42 = .ok (.areturn, 1) := by decide +kernel
theorem dX11_swap_0 : decode cX11_swap 0 = .ok (.aload_n 0, 1) := by decide +kernel
theorem dX11_swap_1 : decode cX11_swap 1 = .ok (.iload_n 1, 1) := by decide +kernel
theorem dX11_swap_2 : decode cX11_swap 2 = .ok (.iaload, 1) := by decide +kernel
theorem dX11_swap_3 : decode cX11_swap 3 = .ok (.istore_n 3, 1) := by decide +kernel
theorem dX11_swap_4 : decode cX11_swap 4 = .ok (.aload_n 0, 1) := by decide +kernel
theorem dX11_swap_5 : decode cX11_swap 5 = .ok (.iload_n 1, 1) := by decide +kernel
theorem dX11_swap_6 : decode cX11_swap 6 = .ok (.iload_n 2, 1) := by decide +kernel
theorem dX11_swap_7 : decode cX11_swap 7 = .ok (.iastore, 1) := by decide +kernel
theorem dX11_swap_8 : decode cX11_swap 8 = .ok (.iload_n 3, 1) := by decide +kernel
theorem dX11_swap_9 : decode cX11_swap 9 = .ok (.ireturn, 1) := by decide +kernel
theorem dX11_copyRow_0 : decode cX11_copyRow 0 = .ok (.aload_n 0, 1) := by decide +kernel
theorem dX11_copyRow_1 : decode cX11_copyRow 1 = .ok (.iconst 0, 1) := by decide +kernel
theorem dX11_copyRow_2 : decode cX11_copyRow 2 = .ok (.aload_n 1, 1) := by decide +kernel
theorem dX11_copyRow_3 : decode cX11_copyRow 3 = .ok (.iconst 0, 1) := by decide +kernel
theorem dX11_copyRow_4 : decode cX11_copyRow 4 = .ok (.aload_n 0, 1) := by decide +kernel
theorem dX11_copyRow_5 : decode cX11_copyRow 5 = .ok (.arraylength, 1) := by decide +kernel
theorem dX11_copyRow_6 : decode cX11_copyRow 6 = .ok (.aload_n 1, 1) := by decide +kernel
theorem dX11_copyRow_7 : decode cX11_copyRow 7 = .ok (.arraylength, 1) := by decide +kernel
theorem dX11_copyRow_8 : decode cX11_copyRow 8 = .ok (.invokestatic 451, 3) := by decide +kernel
theorem dX11_copyRow_11 : decode cX11_copyRow 11 = .ok (.invokestatic 456, 3) := by decide +kernel
theorem dX11_copyRow_14 : decode cX11_copyRow 14 = .ok (.return_, 1) := by decide +kernel
