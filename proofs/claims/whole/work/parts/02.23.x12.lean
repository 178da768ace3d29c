theorem dX12_pour_99 : decode cX12_pour 99 = .ok (.invokevirtual 293, 3) := by decide +kernel
theorem dX12_pour_102 : decode cX12_pour 102 = .ok (.iaload, 1) := by decide +kernel
theorem dX12_pour_103 : decode cX12_pour 103 = .ok (.aload_n 0, 1) := by decide +kernel
theorem dX12_pour_104 : decode cX12_pour 104 = .ok (.getfield 74, 3) := by decide +kernel
theorem dX12_pour_107 : decode cX12_pour 107 = .ok (.iload_n 1, 1) := by decide +kernel
theorem dX12_pour_108 : decode cX12_pour 108 = .ok (.iaload, 1) := by decide +kernel
theorem dX12_pour_109 : decode cX12_pour 109 = .ok (.iadd, 1) := by decide +kernel
theorem dX12_pour_110 : decode cX12_pour 110 = .ok (.bipush 20, 2) := by decide +kernel
theorem dX12_pour_112 : decode cX12_pour 112 = .ok (.if_icmp .le 5, 3) := by decide +kernel
theorem dX12_pour_115 : decode cX12_pour 115 = .ok (.iconst (-1), 1) := by decide +kernel
theorem dX12_pour_116 : decode cX12_pour 116 = .ok (.ireturn, 1) := by decide +kernel
theorem dX12_pour_117 : decode cX12_pour 117 = .ok (.iconst 0, 1) := by decide +kernel
theorem dX12_pour_118 : decode cX12_pour 118 = .ok (.istore_n 3, 1) := by decide +kernel
theorem dX12_pour_119 : decode cX12_pour 119 = .ok (.iload_n 3, 1) := by decide +kernel
theorem dX12_pour_120 : decode cX12_pour 120 = .ok (.aload_n 0, 1) := by decide +kernel
theorem dX12_pour_121 : decode cX12_pour 121 = .ok (.getfield 74, 3) := by decide +kernel
theorem dX12_pour_124 : decode cX12_pour 124 = .ok (.iload_n 1, 1) := by decide +kernel
theorem dX12_pour_125 : decode cX12_pour 125 = .ok (.iaload, 1) := by decide +kernel
theorem dX12_pour_126 : decode cX12_pour 126 = .ok (.if_icmp .ge 26, 3) := by decide +kernel
theorem dX12_pour_129 : decode cX12_pour 129 = .ok (.aload_n 0, 1) := by decide +kernel
theorem dX12_pour_130 : decode cX12_pour 130 = .ok (.iload_n 2, 1) := by decide +kernel
theorem dX12_pour_131 : decode cX12_pour 131 = .ok (.aload_n 0, 1) := by decide +kernel
theorem dX12_pour_132 : decode cX12_pour 132 = .ok (.getfield 77, 3) := by decide +kernel
theorem dX12_pour_135 : decode cX12_pour 135 = .ok (.bipush 20, 2) := by decide +kernel
theorem dX12_pour_137 : decode cX12_pour 137 = .ok (.iload_n 1, 1) := by decide +kernel
theorem dX12_pour_138 : decode cX12_pour 138 = .ok (.imul, 1) := by decide +kernel
theorem dX12_pour_139 : decode cX12_pour 139 = .ok (.iload_n 3, 1) := by decide +kernel
theorem dX12_pour_140 : decode cX12_pour 140 = .ok (.iadd, 1) := by decide +kernel
theorem dX12_pour_141 : decode cX12_pour 141 = .ok (.laload, 1) := by decide +kernel
theorem dX12_pour_142 : decode cX12_pour 142 = .ok (.l2i, 1) := by decide +kernel
theorem dX12_pour_143 : decode cX12_pour 143 = .ok (.invokevirtual 298, 3) := by decide +kernel
theorem dX12_pour_146 : decode cX12_pour 146 = .ok (.iinc 3 1, 3) := by decide +kernel
theorem dX12_pour_149 : decode cX12_pour 149 = .ok (.goto (-30), 3) := by decide +kernel
theorem dX12_pour_152 : decode cX12_pour 152 = .ok (.aload_n 0, 1) := by decide +kernel
theorem dX12_pour_153 : decode cX12_pour 153 = .ok (.getfield 9, 3) := by decide +kernel
theorem dX12_pour_156 : decode cX12_pour 156 = .ok (.sipush 335, 3) := by decide +kernel
theorem dX12_pour_159 : decode cX12_pour 159 = .ok (.iload_n 2, 1) := by decide +kernel
theorem dX12_pour_160 : decode cX12_pour 160 = .ok (.iadd, 1) := by decide +kernel
theorem dX12_pour_161 : decode cX12_pour 161 = .ok (.dup2, 1) := by decide +kernel
theorem dX12_pour_162 : decode cX12_pour 162 = .ok (.iaload, 1) := by decide +kernel
theorem dX12_pour_163 : decode cX12_pour 163 = .ok (.aload_n 0, 1) := by decide +kernel
theorem dX12_pour_164 : decode cX12_pour 164 = .ok (.getfield 74, 3) := by decide +kernel
theorem dX12_pour_167 : decode cX12_pour 167 = .ok (.iload_n 1, 1) := by decide +kernel
theorem dX12_pour_168 : decode cX12_pour 168 = .ok (.iaload, 1) := by decide +kernel
theorem dX12_pour_169 : decode cX12_pour 169 = .ok (.iadd, 1) := by decide +kernel
theorem dX12_pour_170 : decode cX12_pour 170 = .ok (.iastore, 1) := by decide +kernel
theorem dX12_pour_171 : decode cX12_pour 171 = .ok (.aload_n 0, 1) := by decide +kernel
theorem dX12_pour_172 : decode cX12_pour 172 = .ok (.getfield 9, 3) := by decide +kernel
theorem dX12_pour_175 : decode cX12_pour 175 = .ok (.aload_n 0, 1) := by decide +kernel
theorem dX12_pour_176 : decode cX12_pour 176 = .ok (.iload_n 2, 1) := by decide +kernel
theorem dX12_pour_177 : decode cX12_pour 177 = .ok (.invokevirtual 293, 3) := by decide +kernel
theorem dX12_pour_180 : decode cX12_pour 180 = .ok (.iaload, 1) := by decide +kernel
theorem dX12_pour_181 : decode cX12_pour 181 = .ok (.ireturn, 1) := by decide +kernel
set_option maxRecDepth 20000 in
theorem ggX12_image_X12_within : GoodIn wsX12_image wsX12_within := goodIn_r _ [9] (by decide +kernel) (by decide +kernel)
set_option maxRecDepth 20000 in
theorem gX12_image_X12_within : GoodIn wsX12_image (va_wsS RX12 83 yX12_within wsX12_within) := goodIn_app (goodIn_of _ (by decide +kernel)) ggX12_image_X12_within
theorem dX12_image_0 : decode cX12_image 0 = .ok (.aload_n 0, 1) := by decide +kernel
theorem dX12_image_1 : decode cX12_image 1 = .ok (.iload_n 1, 1) := by decide +kernel
theorem dX12_image_2 : decode cX12_image 2 = .ok (.i2l, 1) := by decide +kernel
theorem dX12_image_3 : decode cX12_image 3 = .ok (.lconst 0, 1) := by decide +kernel
theorem dX12_image_4 : decode cX12_image 4 = .ok (.ldc2_w 103, 3) := by decide +kernel
theorem dX12_image_7 : decode cX12_image 7 = .ok (.invokestatic 83, 3) := by decide +kernel
theorem dX12_image_10 : decode cX12_image 10 = .ok (.ifCond .eq 7, 3) := by decide +kernel
theorem dX12_image_13 : decode cX12_image 13 = .ok (.iconst 0, 1) := by decide +kernel
theorem dX12_image_14 : decode cX12_image 14 = .ok (.goto 4, 3) := by decide +kernel
theorem dX12_image_17 : decode cX12_image 17 = .ok (.iconst 1, 1) := by decide +kernel
theorem dX12_image_18 : decode cX12_image 18 = .ok (.putfield 80, 3) := by decide +kernel
theorem dX12_image_21 : decode cX12_image 21 = .ok (.aload_n 0, 1) := by decide +kernel
theorem dX12_image_22 : decode cX12_image 22 = .ok (.getfield 80, 3) := by decide +kernel
theorem dX12_image_25 : decode cX12_image 25 = .ok (.ifCond .le 4, 3) := by decide +kernel
theorem dX12_image_28 : decode cX12_image 28 = .ok (.return_, 1) := by decide +kernel
theorem dX12_image_29 : decode cX12_image 29 = .ok (.aload_n 0, 1) := by decide +kernel
theorem dX12_image_30 : decode cX12_image 30 = .ok (.getfield 16, 3) := by decide +kernel
theorem dX12_image_33 : decode cX12_image 33 = .ok (.iload_n 1, 1) := by decide +kernel
theorem dX12_image_34 : decode cX12_image 34 = .ok (.iconst 1, 1) := by decide +kernel
theorem dX12_image_35 : decode cX12_image 35 = .ok (.bastore, 1) := by decide +kernel
theorem dX12_image_36 : decode cX12_image 36 = .ok (.iconst 0, 1) := by decide +kernel
theorem dX12_image_37 : decode cX12_image 37 = .ok (.istore_n 2, 1) := by decide +kernel
theorem dX12_image_38 : decode cX12_image 38 = .ok (.iload_n 2, 1) := by decide +kernel
theorem dX12_image_39 : decode cX12_image 39 = .ok (.sipush 615, 3) := by decide +kernel
theorem dX12_image_42 : decode cX12_image 42 = .ok (.if_icmp .ge 27, 3) := by decide +kernel
theorem dX12_image_45 : decode cX12_image 45 = .ok (.aload_n 0, 1) := by decide +kernel
theorem dX12_image_46 : decode cX12_image 46 = .ok (.getfield 13, 3) := by decide +kernel
theorem dX12_image_49 : decode cX12_image 49 = .ok (.sipush 615, 3) := by decide +kernel
theorem dX12_image_52 : decode cX12_image 52 = .ok (.iload_n 1, 1) := by decide +kernel
theorem dX12_image_53 : decode cX12_image 53 = .ok (.imul, 1) := by decide +kernel
theorem dX12_image_54 : decode cX12_image 54 = .ok (.iload_n 2, 1) := by decide +kernel
theorem dX12_image_55 : decode cX12_image 55 = .ok (.iadd, 1) := by decide +kernel
theorem dX12_image_56 : decode cX12_image 56 = .ok (.aload_n 0, 1) := by decide +kernel
theorem dX12_image_57 : decode cX12_image 57 = .ok (.getfield 9, 3) := by decide +kernel
theorem dX12_image_60 : decode cX12_image 60 = .ok (.iload_n 2, 1) := by decide +kernel
theorem dX12_image_61 : decode cX12_image 61 = .ok (.iaload, 1) := by decide +kernel
theorem dX12_image_62 : decode cX12_image 62 = .ok (.iastore, 1) := by decide +kernel
theorem dX12_image_63 : decode cX12_image 63 = .ok (.iinc 2 1, 3) := by decide +kernel
theorem dX12_image_66 : decode cX12_image 66 = .ok (.goto (-28), 3) := by decide +kernel
theorem dX12_image_69 : decode cX12_image 69 = .ok (.return_, 1) := by decide +kernel
set_option maxRecDepth 20000 in
theorem ggX12_restore_X12_within : GoodIn wsX12_restore wsX12_within := goodIn_r _ [9] (by decide +kernel) (by decide +kernel)
set_option maxRecDepth 20000 in
theorem gX12_restore_X12_within : GoodIn wsX12_restore (va_wsS RX12 83 yX12_within wsX12_within) := goodIn_app (goodIn_of _ (by decide +kernel)) ggX12_restore_X12_within
theorem dX12_restore_0 : decode cX12_restore 0 = .ok (.aload_n 0, 1) := by decide +kernel
theorem dX12_restore_1 : decode cX12_restore 1 = .ok (.iload_n 1, 1) := by decide +kernel
theorem dX12_restore_2 : decode cX12_restore 2 = .ok (.i2l, 1) := by decide +kernel
theorem dX12_restore_3 : decode cX12_restore 3 = .ok (.lconst 0, 1) := by decide +kernel
theorem dX12_restore_4 : decode cX12_restore 4 = .ok (.ldc2_w 103, 3) := by decide +kernel
theorem dX12_restore_7 : decode cX12_restore 7 = .ok (.invokestatic 83, 3) := by decide +kernel
theorem dX12_restore_10 : decode cX12_restore 10 = .ok (.ifCond .ne 7, 3) := by decide +kernel
theorem dX12_restore_13 : decode cX12_restore 13 = .ok (.iconst 1, 1) := by decide +kernel
theorem dX12_restore_14 : decode cX12_restore 14 = .ok (.goto 17, 3) := by decide +kernel
theorem dX12_restore_17 : decode cX12_restore 17 = .ok (.aload_n 0, 1) := by decide +kernel
theorem dX12_restore_18 : decode cX12_restore 18 = .ok (.getfield 16, 3) := by decide +kernel
theorem dX12_restore_21 : decode cX12_restore 21 = .ok (.iload_n 1, 1) := by decide +kernel
theorem dX12_restore_22 : decode cX12_restore 22 = .ok (.baload, 1) := by decide +kernel
theorem dX12_restore_23 : decode cX12_restore 23 = .ok (.ifCond .ne 7, 3) := by decide +kernel
theorem dX12_restore_26 : decode cX12_restore 26 = .ok (.iconst 2, 1) := by decide +kernel
theorem dX12_restore_27 : decode cX12_restore 27 = .ok (.goto 4, 3) := by decide +kernel
theorem dX12_restore_30 : decode cX12_restore 30 = .ok (.iconst 0, 1) := by decide +kernel
theorem dX12_restore_31 : decode cX12_restore 31 = .ok (.putfield 80, 3) := by decide +kernel
theorem dX12_restore_34 : decode cX12_restore 34 = .ok (.aload_n 0, 1) := by decide +kernel
theorem dX12_restore_35 : decode cX12_restore 35 = .ok (.getfield 80, 3) := by decide +kernel
theorem dX12_restore_38 : decode cX12_restore 38 = .ok (.ifCond .le 4, 3) := by decide +kernel
theorem dX12_restore_41 : decode cX12_restore 41 = .ok (.return_, 1) := by decide +kernel
theorem dX12_restore_42 : decode cX12_restore 42 = .ok (.iconst 0, 1) := by decide +kernel
theorem dX12_restore_43 : decode cX12_restore 43 = .ok (.istore_n 2, 1) := by decide +kernel
theorem dX12_restore_44 : decode cX12_restore 44 = .ok (.iload_n 2, 1) := by decide +kernel
theorem dX12_restore_45 : decode cX12_restore 45 = .ok (.sipush 615, 3) := by decide +kernel
theorem dX12_restore_48 : decode cX12_restore 48 = .ok (.if_icmp .ge 27, 3) := by decide +kernel
theorem dX12_restore_51 : decode cX12_restore 51 = .ok (.aload_n 0, 1) := by decide +kernel
theorem dX12_restore_52 : decode cX12_restore 52 = .ok (.getfield 9, 3) := by decide +kernel
theorem dX12_restore_55 : decode cX12_restore 55 = .ok (.iload_n 2, 1) := by decide +kernel
theorem dX12_restore_56 : decode cX12_restore 56 = .ok (.aload_n 0, 1) := by decide +kernel
theorem dX12_restore_57 : decode cX12_restore 57 = .ok (.getfield 13, 3) := by decide +kernel
theorem dX12_restore_60 : decode cX12_restore 60 = .ok (.sipush 615, 3) := by decide +kernel
theorem dX12_restore_63 : decode cX12_restore 63 = .ok (.iload_n 1, 1) := by decide +kernel
theorem dX12_restore_64 : decode cX12_restore 64 = .ok (.imul, 1) := by decide +kernel
theorem dX12_restore_65 : decode cX12_restore 65 = .ok (.iload_n 2, 1) := by decide +kernel
theorem dX12_restore_66 : decode cX12_restore 66 = .ok (.iadd, 1) := by decide +kernel
theorem dX12_restore_67 : decode cX12_restore 67 = .ok (.iaload, 1) := by decide +kernel
theorem dX12_restore_68 : decode cX12_restore 68 = .ok (.iastore, 1) := by decide +kernel
theorem dX12_restore_69 : decode cX12_restore 69 = .ok (.iinc 2 1, 3) := by decide +kernel
theorem dX12_restore_72 : decode cX12_restore 72 = .ok (.goto (-28), 3) := by decide +kernel
theorem dX12_restore_75 : decode cX12_restore 75 = .ok (.return_, 1) := by decide +kernel
set_option maxRecDepth 20000 in
theorem ggX12_count_X12_within : GoodIn wsX12_count wsX12_within := goodIn_r _ [8] (by decide +kernel) (by decide +kernel)
set_option maxRecDepth 20000 in
theorem gX12_count_X12_within : GoodIn wsX12_count (va_wsS RX12 83 yX12_within wsX12_within) := goodIn_app (goodIn_of _ (by decide +kernel)) ggX12_count_X12_within
theorem dX12_count_0 : decode cX12_count 0 = .ok (.aload_n 0, 1) := by decide +kernel
theorem dX12_count_1 : decode cX12_count 1 = .ok (.iconst 0, 1) := by decide +kernel
theorem dX12_count_2 : decode cX12_count 2 = .ok (.putfield 80, 3) := by decide +kernel
theorem dX12_count_5 : decode cX12_count 5 = .ok (.iload_n 1, 1) := by decide +kernel
theorem dX12_count_6 : decode cX12_count 6 = .ok (.bipush 6, 2) := by decide +kernel
theorem dX12_count_8 : decode cX12_count 8 = .ok (.if_icmp .ne 8, 3) := by decide +kernel
theorem dX12_count_11 : decode cX12_count 11 = .ok (.aload_n 0, 1) := by decide +kernel
theorem dX12_count_12 : decode cX12_count 12 = .ok (.getfield 136, 3) := by decide +kernel
theorem dX12_count_15 : decode cX12_count 15 = .ok (.ireturn, 1) := by decide +kernel
theorem dX12_count_16 : decode cX12_count 16 = .ok (.iload_n 1, 1) := by decide +kernel
theorem dX12_count_17 : decode cX12_count 17 = .ok (.bipush 7, 2) := by decide +kernel
theorem dX12_count_19 : decode cX12_count 19 = .ok (.if_icmp .ne 11, 3) := by decide +kernel
theorem dX12_count_22 : decode cX12_count 22 = .ok (.aload_n 0, 1) := by decide +kernel
theorem dX12_count_23 : decode cX12_count 23 = .ok (.getfield 9, 3) := by decide +kernel
theorem dX12_count_26 : decode cX12_count 26 = .ok (.bipush 6, 2) := by decide +kernel
theorem dX12_count_28 : decode cX12_count 28 = .ok (.iaload, 1) := by decide +kernel
theorem dX12_count_29 : decode cX12_count 29 = .ok (.ireturn, 1) := by decide +kernel
theorem dX12_count_30 : decode cX12_count 30 = .ok (.iload_n 1, 1) := by decide +kernel
theorem dX12_count_31 : decode cX12_count 31 = .ok (.i2l, 1) := by decide +kernel
theorem dX12_count_32 : decode cX12_count 32 = .ok (.lconst 0, 1) := by decide +kernel
theorem dX12_count_33 : decode cX12_count 33 = .ok (.ldc2_w 360, 3) := by decide +kernel
theorem dX12_count_36 : decode cX12_count 36 = .ok (.invokestatic 83, 3) := by decide +kernel
theorem dX12_count_39 : decode cX12_count 39 = .ok (.ifCond .eq 12, 3) := by decide +kernel
theorem dX12_count_42 : decode cX12_count 42 = .ok (.aload_n 0, 1) := by decide +kernel
theorem dX12_count_43 : decode cX12_count 43 = .ok (.getfield 9, 3) := by decide +kernel
theorem dX12_count_46 : decode cX12_count 46 = .ok (.iload_n 1, 1) := by decide +kernel
theorem dX12_count_47 : decode cX12_count 47 = .ok (.iaload, 1) := by decide +kernel
theorem dX12_count_48 : decode cX12_count 48 = .ok (.goto 4, 3) := by decide +kernel
theorem dX12_count_51 : decode cX12_count 51 = .ok (.iconst (-1), 1) := by decide +kernel
theorem dX12_count_52 : decode cX12_count 52 = .ok (.ireturn, 1) := by decide +kernel
