theorem dX12_text_152 : decode cX12_text 152 = .ok (.iconst 0, 1) := by decide +kernel
theorem dX12_text_153 : decode cX12_text 153 = .ok (.istore_n 3, 1) := by decide +kernel
theorem dX12_text_154 : decode cX12_text 154 = .ok (.iload_n 3, 1) := by decide +kernel
theorem dX12_text_155 : decode cX12_text 155 = .ok (.bipush 7, 2) := by decide +kernel
theorem dX12_text_157 : decode cX12_text 157 = .ok (.iload_n 2, 1) := by decide +kernel
theorem dX12_text_158 : decode cX12_text 158 = .ok (.imul, 1) := by decide +kernel
theorem dX12_text_159 : decode cX12_text 159 = .ok (.if_icmp .ge 24, 3) := by decide +kernel
theorem dX12_text_162 : decode cX12_text 162 = .ok (.aload_n 0, 1) := by decide +kernel
theorem dX12_text_163 : decode cX12_text 163 = .ok (.getfield 9, 3) := by decide +kernel
theorem dX12_text_166 : decode cX12_text 166 = .ok (.bipush 103, 2) := by decide +kernel
theorem dX12_text_168 : decode cX12_text 168 = .ok (.iload_n 3, 1) := by decide +kernel
theorem dX12_text_169 : decode cX12_text 169 = .ok (.iadd, 1) := by decide +kernel
theorem dX12_text_170 : decode cX12_text 170 = .ok (.aload_n 0, 1) := by decide +kernel
theorem dX12_text_171 : decode cX12_text 171 = .ok (.getfield 23, 3) := by decide +kernel
theorem dX12_text_174 : decode cX12_text 174 = .ok (.iload_n 3, 1) := by decide +kernel
theorem dX12_text_175 : decode cX12_text 175 = .ok (.iaload, 1) := by decide +kernel
theorem dX12_text_176 : decode cX12_text 176 = .ok (.iastore, 1) := by decide +kernel
theorem dX12_text_177 : decode cX12_text 177 = .ok (.iinc 3 1, 3) := by decide +kernel
theorem dX12_text_180 : decode cX12_text 180 = .ok (.goto (-26), 3) := by decide +kernel
theorem dX12_text_183 : decode cX12_text 183 = .ok (.iload_n 2, 1) := by decide +kernel
theorem dX12_text_184 : decode cX12_text 184 = .ok (.ireturn, 1) := by decide +kernel
theorem dX12_fault_0 : decode cX12_fault 0 = .ok (.aload_n 0, 1) := by decide +kernel
theorem dX12_fault_1 : decode cX12_fault 1 = .ok (.iconst 0, 1) := by decide +kernel
theorem dX12_fault_2 : decode cX12_fault 2 = .ok (.putfield 80, 3) := by decide +kernel
theorem dX12_fault_5 : decode cX12_fault 5 = .ok (.iload_n 1, 1) := by decide +kernel
theorem dX12_fault_6 : decode cX12_fault 6 = .ok (.ifCond .ne 10, 3) := by decide +kernel
theorem dX12_fault_9 : decode cX12_fault 9 = .ok (.aload_n 0, 1) := by decide +kernel
theorem dX12_fault_10 : decode cX12_fault 10 = .ok (.getfield 222, 3) := by decide +kernel
theorem dX12_fault_13 : decode cX12_fault 13 = .ok (.goto 16, 3) := by decide +kernel
theorem dX12_fault_16 : decode cX12_fault 16 = .ok (.iload_n 1, 1) := by decide +kernel
theorem dX12_fault_17 : decode cX12_fault 17 = .ok (.iconst 1, 1) := by decide +kernel
theorem dX12_fault_18 : decode cX12_fault 18 = .ok (.if_icmp .ne 10, 3) := by decide +kernel
theorem dX12_fault_21 : decode cX12_fault 21 = .ok (.aload_n 0, 1) := by decide +kernel
theorem dX12_fault_22 : decode cX12_fault 22 = .ok (.getfield 26, 3) := by decide +kernel
theorem dX12_fault_25 : decode cX12_fault 25 = .ok (.goto 4, 3) := by decide +kernel
theorem dX12_fault_28 : decode cX12_fault 28 = .ok (.iconst (-1), 1) := by decide +kernel
theorem dX12_fault_29 : decode cX12_fault 29 = .ok (.ireturn, 1) := by decide +kernel
set_option maxRecDepth 20000 in
theorem ggX12_isGate_X12_is : GoodIn wsX12_isGate wsX12_is := goodIn_r _ [5, 6, 7, 8, 4, 9, 10, 11, 12, 13, 14, 15, 16, 17, 18, 19, 20, 21, 22, 23, 24, 25, 26, 27, 28, 29, 30, 31, 32, 33, 34, 35, 36, 37, 38, 39, 40, 41, 42, 43, 44] (by decide +kernel) (by decide +kernel)
set_option maxRecDepth 20000 in
theorem gX12_isGate_X12_is : GoodIn wsX12_isGate (wsV RX12 87 RX12 yX12_is wsX12_is) := goodIn_app (goodIn_of _ (by decide +kernel)) ggX12_isGate_X12_is
theorem dX12_isGate_0 : decode cX12_isGate 0 = .ok (.aload_n 0, 1) := by decide +kernel
theorem dX12_isGate_1 : decode cX12_isGate 1 = .ok (.iconst 1, 1) := by decide +kernel
theorem dX12_isGate_2 : decode cX12_isGate 2 = .ok (.iload_n 1, 1) := by decide +kernel
theorem dX12_isGate_3 : decode cX12_isGate 3 = .ok (.invokevirtual 87, 3) := by decide +kernel
theorem dX12_isGate_6 : decode cX12_isGate 6 = .ok (.ireturn, 1) := by decide +kernel
set_option maxRecDepth 20000 in
theorem ggX12_gate_X12_isGate : GoodIn wsX12_gate wsX12_isGate := goodIn_r _ [8, 9, 10, 11, 7, 12, 3, 13, 14, 15, 20, 21, 22, 23, 24, 25, 26, 27, 28, 29, 30, 31, 32, 33, 34, 35, 36, 37, 38, 39, 40, 41, 42, 43, 44, 45, 46, 47, 48, 49, 50, 51, 52, 53, 54] (by decide +kernel) (by decide +kernel)
set_option maxRecDepth 20000 in
theorem gX12_gate_X12_isGate : GoodIn wsX12_gate (wsV RX12 225 RX12 yX12_isGate wsX12_isGate) := goodIn_app (goodIn_of _ (by decide +kernel)) ggX12_gate_X12_isGate
set_option maxRecDepth 20000 in
theorem ggX12_gate_X12_fails : GoodIn wsX12_gate wsX12_fails := goodIn_r _ [19, 1, 20, 21, 22, 23, 24, 25, 26, 27, 28, 29, 30, 31, 32, 33, 34, 35, 36, 37, 38, 39, 40, 41, 42, 43, 44, 45, 46, 47, 48, 49, 50, 51, 52, 53, 54] (by decide +kernel) (by decide +kernel)
set_option maxRecDepth 20000 in
theorem gX12_gate_X12_fails : GoodIn wsX12_gate (wsV RX12 95 RX12 yX12_fails wsX12_fails) := goodIn_app (goodIn_of _ (by decide +kernel)) ggX12_gate_X12_fails
set_option maxRecDepth 20000 in
theorem ggX12_gate_X12_within : GoodIn wsX12_gate wsX12_within := goodIn_r _ [15] (by decide +kernel) (by decide +kernel)
set_option maxRecDepth 20000 in
theorem gX12_gate_X12_within : GoodIn wsX12_gate (va_wsS RX12 83 yX12_within wsX12_within) := goodIn_app (goodIn_of _ (by decide +kernel)) ggX12_gate_X12_within
theorem dX12_gate_0 : decode cX12_gate 0 = .ok (.aload_n 0, 1) := by decide +kernel
theorem dX12_gate_1 : decode cX12_gate 1 = .ok (.iconst 0, 1) := by decide +kernel
theorem dX12_gate_2 : decode cX12_gate 2 = .ok (.putfield 80, 3) := by decide +kernel
theorem dX12_gate_5 : decode cX12_gate 5 = .ok (.aload_n 0, 1) := by decide +kernel
theorem dX12_gate_6 : decode cX12_gate 6 = .ok (.iload_n 1, 1) := by decide +kernel
theorem dX12_gate_7 : decode cX12_gate 7 = .ok (.invokevirtual 225, 3) := by decide +kernel
theorem dX12_gate_10 : decode cX12_gate 10 = .ok (.ifCond .ne 9, 3) := by decide +kernel
theorem dX12_gate_13 : decode cX12_gate 13 = .ok (.aload_n 0, 1) := by decide +kernel
theorem dX12_gate_14 : decode cX12_gate 14 = .ok (.iconst 1, 1) := by decide +kernel
theorem dX12_gate_15 : decode cX12_gate 15 = .ok (.invokevirtual 95, 3) := by decide +kernel
theorem dX12_gate_18 : decode cX12_gate 18 = .ok (.ireturn, 1) := by decide +kernel
theorem dX12_gate_19 : decode cX12_gate 19 = .ok (.iload_n 2, 1) := by decide +kernel
theorem dX12_gate_20 : decode cX12_gate 20 = .ok (.i2l, 1) := by decide +kernel
theorem dX12_gate_21 : decode cX12_gate 21 = .ok (.lconst 0, 1) := by decide +kernel
theorem dX12_gate_22 : decode cX12_gate 22 = .ok (.ldc2_w 103, 3) := by decide +kernel
theorem dX12_gate_25 : decode cX12_gate 25 = .ok (.invokestatic 83, 3) := by decide +kernel
theorem dX12_gate_28 : decode cX12_gate 28 = .ok (.ifCond .eq 20, 3) := by decide +kernel
theorem dX12_gate_31 : decode cX12_gate 31 = .ok (.aload_n 0, 1) := by decide +kernel
theorem dX12_gate_32 : decode cX12_gate 32 = .ok (.getfield 9, 3) := by decide +kernel
theorem dX12_gate_35 : decode cX12_gate 35 = .ok (.bipush 103, 2) := by decide +kernel
theorem dX12_gate_37 : decode cX12_gate 37 = .ok (.bipush 7, 2) := by decide +kernel
theorem dX12_gate_39 : decode cX12_gate 39 = .ok (.iload_n 1, 1) := by decide +kernel
theorem dX12_gate_40 : decode cX12_gate 40 = .ok (.imul, 1) := by decide +kernel
theorem dX12_gate_41 : decode cX12_gate 41 = .ok (.iadd, 1) := by decide +kernel
theorem dX12_gate_42 : decode cX12_gate 42 = .ok (.iload_n 2, 1) := by decide +kernel
theorem dX12_gate_43 : decode cX12_gate 43 = .ok (.iadd, 1) := by decide +kernel
theorem dX12_gate_44 : decode cX12_gate 44 = .ok (.iaload, 1) := by decide +kernel
theorem dX12_gate_45 : decode cX12_gate 45 = .ok (.goto 8, 3) := by decide +kernel
theorem dX12_gate_48 : decode cX12_gate 48 = .ok (.aload_n 0, 1) := by decide +kernel
theorem dX12_gate_49 : decode cX12_gate 49 = .ok (.iconst 2, 1) := by decide +kernel
theorem dX12_gate_50 : decode cX12_gate 50 = .ok (.invokevirtual 95, 3) := by decide +kernel
theorem dX12_gate_53 : decode cX12_gate 53 = .ok (.ireturn, 1) := by decide +kernel
theorem dX12_heard_0 : decode cX12_heard 0 = .ok (.iconst 0, 1) := by decide +kernel
theorem dX12_heard_1 : decode cX12_heard 1 = .ok (.bipush 99, 2) := by decide +kernel
theorem dX12_heard_3 : decode cX12_heard 3 = .ok (.iload_n 1, 1) := by decide +kernel
theorem dX12_heard_4 : decode cX12_heard 4 = .ok (.aload_n 0, 1) := by decide +kernel
theorem dX12_heard_5 : decode cX12_heard 5 = .ok (.getfield 9, 3) := by decide +kernel
theorem dX12_heard_8 : decode cX12_heard 8 = .ok (.bipush 9, 2) := by decide +kernel
theorem dX12_heard_10 : decode cX12_heard 10 = .ok (.iaload, 1) := by decide +kernel
theorem dX12_heard_11 : decode cX12_heard 11 = .ok (.iadd, 1) := by decide +kernel
theorem dX12_heard_12 : decode cX12_heard 12 = .ok (.invokestatic 228, 3) := by decide +kernel
theorem dX12_heard_15 : decode cX12_heard 15 = .ok (.invokestatic 123, 3) := by decide +kernel
theorem dX12_heard_18 : decode cX12_heard 18 = .ok (.ireturn, 1) := by decide +kernel
theorem dX12_lowOf_0 : decode cX12_lowOf 0 = .ok (.iload_n 1, 1) := by decide +kernel
theorem dX12_lowOf_1 : decode cX12_lowOf 1 = .ok (.aload_n 0, 1) := by decide +kernel
theorem dX12_lowOf_2 : decode cX12_lowOf 2 = .ok (.getfield 30, 3) := by decide +kernel
theorem dX12_lowOf_5 : decode cX12_lowOf 5 = .ok (.if_icmp .ne 10, 3) := by decide +kernel
theorem dX12_lowOf_8 : decode cX12_lowOf 8 = .ok (.aload_n 0, 1) := by decide +kernel
theorem dX12_lowOf_9 : decode cX12_lowOf 9 = .ok (.getfield 231, 3) := by decide +kernel
theorem dX12_lowOf_12 : decode cX12_lowOf 12 = .ok (.goto 17, 3) := by decide +kernel
theorem dX12_lowOf_15 : decode cX12_lowOf 15 = .ok (.aload_n 0, 1) := by decide +kernel
theorem dX12_lowOf_16 : decode cX12_lowOf 16 = .ok (.getfield 9, 3) := by decide +kernel
theorem dX12_lowOf_19 : decode cX12_lowOf 19 = .ok (.bipush 103, 2) := by decide +kernel
theorem dX12_lowOf_21 : decode cX12_lowOf 21 = .ok (.bipush 7, 2) := by decide +kernel
theorem dX12_lowOf_23 : decode cX12_lowOf 23 = .ok (.iload_n 1, 1) := by decide +kernel
theorem dX12_lowOf_24 : decode cX12_lowOf 24 = .ok (.imul, 1) := by decide +kernel
theorem dX12_lowOf_25 : decode cX12_lowOf 25 = .ok (.iadd, 1) := by decide +kernel
theorem dX12_lowOf_26 : decode cX12_lowOf 26 = .ok (.iconst 1, 1) := by decide +kernel
theorem dX12_lowOf_27 : decode cX12_lowOf 27 = .ok (.iadd, 1) := by decide +kernel
theorem dX12_lowOf_28 : decode cX12_lowOf 28 = .ok (.iaload, 1) := by decide +kernel
theorem dX12_lowOf_29 : decode cX12_lowOf 29 = .ok (.ireturn, 1) := by decide +kernel
theorem dX12_highOf_0 : decode cX12_highOf 0 = .ok (.iload_n 1, 1) := by decide +kernel
theorem dX12_highOf_1 : decode cX12_highOf 1 = .ok (.aload_n 0, 1) := by decide +kernel
theorem dX12_highOf_2 : decode cX12_highOf 2 = .ok (.getfield 30, 3) := by decide +kernel
theorem dX12_highOf_5 : decode cX12_highOf 5 = .ok (.if_icmp .ne 10, 3) := by decide +kernel
theorem dX12_highOf_8 : decode cX12_highOf 8 = .ok (.aload_n 0, 1) := by decide +kernel
theorem dX12_highOf_9 : decode cX12_highOf 9 = .ok (.getfield 234, 3) := by decide +kernel
theorem dX12_highOf_12 : decode cX12_highOf 12 = .ok (.goto 17, 3) := by decide +kernel
theorem dX12_highOf_15 : decode cX12_highOf 15 = .ok (.aload_n 0, 1) := by decide +kernel
theorem dX12_highOf_16 : decode cX12_highOf 16 = .ok (.getfield 9, 3) := by decide +kernel
theorem dX12_highOf_19 : decode cX12_highOf 19 = .ok (.bipush 103, 2) := by decide +kernel
theorem dX12_highOf_21 : decode cX12_highOf 21 = .ok (.bipush 7, 2) := by decide +kernel
theorem dX12_highOf_23 : decode cX12_highOf 23 = .ok (.iload_n 1, 1) := by decide +kernel
theorem dX12_highOf_24 : decode cX12_highOf 24 = .ok (.imul, 1) := by decide +kernel
theorem dX12_highOf_25 : decode cX12_highOf 25 = .ok (.iadd, 1) := by decide +kernel
theorem dX12_highOf_26 : decode cX12_highOf 26 = .ok (.iconst 2, 1) := by decide +kernel
theorem dX12_highOf_27 : decode cX12_highOf 27 = .ok (.iadd, 1) := by decide +kernel
theorem dX12_highOf_28 : decode cX12_highOf 28 = .ok (.iaload, 1) := by decide +kernel
theorem dX12_highOf_29 : decode cX12_highOf 29 = .ok (.ireturn, 1) := by decide +kernel
set_option maxRecDepth 20000 in
theorem ggX12_tally_X12_endOf : GoodIn wsX12_tally wsX12_endOf := goodIn_r _ [7, 8, 9, 10, 11, 12, 13, 14, 15, 6, 16, 62, 63, 64, 65, 66, 67, 68, 69, 70, 71, 72, 73, 74, 75, 76, 77, 78, 79, 80, 81, 82, 83, 84, 85, 86, 87, 88, 89, 90, 91, 92, 93, 94, 95, 96] (by decide +kernel) (by decide +kernel)
set_option maxRecDepth 20000 in
theorem gX12_tally_X12_endOf : GoodIn wsX12_tally (wsV RX12 128 RX12 yX12_endOf wsX12_endOf) := goodIn_app (goodIn_of _ (by decide +kernel)) ggX12_tally_X12_endOf
set_option maxRecDepth 20000 in
theorem ggX12_tally_X12_heard : GoodIn wsX12_tally wsX12_heard := goodIn_r _ [20, 8, 21, 22, 11, 23, 9, 10, 12, 62, 63, 64, 65, 66, 67, 68, 69, 70, 71, 72, 73, 74, 75, 76, 77, 78, 79, 80, 81, 82, 83, 84, 85, 86, 87, 88, 89, 90, 91, 92, 93, 94, 95, 96] (by decide +kernel) (by decide +kernel)
set_option maxRecDepth 20000 in
theorem gX12_tally_X12_heard : GoodIn wsX12_tally (wsV RX12 237 RX12 yX12_heard wsX12_heard) := goodIn_app (goodIn_of _ (by decide +kernel)) ggX12_tally_X12_heard
set_option maxRecDepth 20000 in
theorem ggX12_tally_X12_box : GoodIn wsX12_tally wsX12_box := goodIn_r _ [27, 2, 8, 1, 9, 10, 11, 12, 21, 22, 23, 28, 29, 30, 6, 31, 32, 33, 34, 35, 36, 37, 38, 39, 40, 41, 42, 43, 44, 45, 46, 24, 25, 26, 47, 48, 49, 50, 51, 52, 53, 54, 55, 56, 57, 58, 59, 60, 61, 13, 14, 15, 16, 62, 63, 64, 65, 66, 67, 68, 69, 70, 71, 72, 73, 74, 75, 76, 77, 78, 79, 80, 81, 82, 83, 84, 85, 86, 87, 88, 89, 90, 91, 92, 93, 94, 95, 96] (by decide +kernel) (by decide +kernel)
set_option maxRecDepth 20000 in
theorem gX12_tally_X12_box : GoodIn wsX12_tally (wsV RX12 240 RX12 yX12_box wsX12_box) := goodIn_app (goodIn_of _ (by decide +kernel)) ggX12_tally_X12_box
theorem dX12_tally_0 : decode cX12_tally 0 = .ok (.iconst 0, 1) := by decide +kernel
theorem dX12_tally_1 : decode cX12_tally 1 = .ok (.istore_n 2, 1) := by decide +kernel
theorem dX12_tally_2 : decode cX12_tally 2 = .ok (.iload_n 2, 1) := by decide +kernel
theorem dX12_tally_3 : decode cX12_tally 3 = .ok (.bipush 8, 2) := by decide +kernel
theorem dX12_tally_5 : decode cX12_tally 5 = .ok (.if_icmp .gt 16, 3) := by decide +kernel
theorem dX12_tally_8 : decode cX12_tally 8 = .ok (.aload_n 0, 1) := by decide +kernel
theorem dX12_tally_9 : decode cX12_tally 9 = .ok (.getfield 36, 3) := by decide +kernel
theorem dX12_tally_12 : decode cX12_tally 12 = .ok (.iload_n 2, 1) := by decide +kernel
theorem dX12_tally_13 : decode cX12_tally 13 = .ok (.lconst 0, 1) := by decide +kernel
theorem dX12_tally_14 : decode cX12_tally 14 = .ok (.lastore, 1) := by decide +kernel
theorem dX12_tally_15 : decode cX12_tally 15 = .ok (.iinc 2 1, 3) := by decide +kernel
theorem dX12_tally_18 : decode cX12_tally 18 = .ok (.goto (-16), 3) := by decide +kernel
theorem dX12_tally_21 : decode cX12_tally 21 = .ok (.iconst 0, 1) := by decide +kernel
theorem dX12_tally_22 : decode cX12_tally 22 = .ok (.istore_n 2, 1) := by decide +kernel
theorem dX12_tally_23 : decode cX12_tally 23 = .ok (.iload_n 2, 1) := by decide +kernel
theorem dX12_tally_24 : decode cX12_tally 24 = .ok (.bipush 100, 2) := by decide +kernel
theorem dX12_tally_26 : decode cX12_tally 26 = .ok (.if_icmp .gt 16, 3) := by decide +kernel
theorem dX12_tally_29 : decode cX12_tally 29 = .ok (.aload_n 0, 1) := by decide +kernel
theorem dX12_tally_30 : decode cX12_tally 30 = .ok (.getfield 33, 3) := by decide +kernel
theorem dX12_tally_33 : decode cX12_tally 33 = .ok (.iload_n 2, 1) := by decide +kernel
theorem dX12_tally_34 : decode cX12_tally 34 = .ok (.iconst 0, 1) := by decide +kernel
theorem dX12_tally_35 : decode cX12_tally 35 = .ok (.iastore, 1) := by decide +kernel
theorem dX12_tally_36 : decode cX12_tally 36 = .ok (.iinc 2 1, 3) := by decide +kernel
theorem dX12_tally_39 : decode cX12_tally 39 = .ok (.goto (-16), 3) := by decide +kernel
theorem dX12_tally_42 : decode cX12_tally 42 = .ok (.aload_n 0, 1) := by decide +kernel
theorem dX12_tally_43 : decode cX12_tally 43 = .ok (.iload_n 1, 1) := by decide +kernel
theorem dX12_tally_44 : decode cX12_tally 44 = .ok (.iconst 2, 1) := by decide +kernel
theorem dX12_tally_45 : decode cX12_tally 45 = .ok (.iconst 0, 1) := by decide +kernel
theorem dX12_tally_46 : decode cX12_tally 46 = .ok (.invokevirtual 128, 3) := by decide +kernel
theorem dX12_tally_49 : decode cX12_tally 49 = .ok (.istore_n 2, 1) := by decide +kernel
theorem dX12_tally_50 : decode cX12_tally 50 = .ok (.iload_n 2, 1) := by decide +kernel
theorem dX12_tally_51 : decode cX12_tally 51 = .ok (.aload_n 0, 1) := by decide +kernel
theorem dX12_tally_52 : decode cX12_tally 52 = .ok (.iload_n 1, 1) := by decide +kernel
theorem dX12_tally_53 : decode cX12_tally 53 = .ok (.iconst 2, 1) := by decide +kernel
theorem dX12_tally_54 : decode cX12_tally 54 = .ok (.iconst 1, 1) := by decide +kernel
theorem dX12_tally_55 : decode cX12_tally 55 = .ok (.invokevirtual 128, 3) := by decide +kernel
theorem dX12_tally_58 : decode cX12_tally 58 = .ok (.if_icmp .gt 25, 3) := by decide +kernel
theorem dX12_tally_61 : decode cX12_tally 61 = .ok (.aload_n 0, 1) := by decide +kernel
theorem dX12_tally_62 : decode cX12_tally 62 = .ok (.getfield 33, 3) := by decide +kernel
theorem dX12_tally_65 : decode cX12_tally 65 = .ok (.aload_n 0, 1) := by decide +kernel
theorem dX12_tally_66 : decode cX12_tally 66 = .ok (.iload_n 2, 1) := by decide +kernel
theorem dX12_tally_67 : decode cX12_tally 67 = .ok (.invokevirtual 237, 3) := by decide +kernel
theorem dX12_tally_70 : decode cX12_tally 70 = .ok (.iconst 1, 1) := by decide +kernel
theorem dX12_tally_71 : decode cX12_tally 71 = .ok (.iadd, 1) := by decide +kernel
theorem dX12_tally_72 : decode cX12_tally 72 = .ok (.dup2, 1) := by decide +kernel
theorem dX12_tally_73 : decode cX12_tally 73 = .ok (.iaload, 1) := by decide +kernel
theorem dX12_tally_74 : decode cX12_tally 74 = .ok (.iconst 1, 1) := by decide +kernel
theorem dX12_tally_75 : decode cX12_tally 75 = .ok (.iadd, 1) := by decide +kernel
theorem dX12_tally_76 : decode cX12_tally 76 = .ok (.iastore, 1) := by decide +kernel
theorem dX12_tally_77 : decode cX12_tally 77 = .ok (.iinc 2 1, 3) := by decide +kernel
theorem dX12_tally_80 : decode cX12_tally 80 = .ok (.goto (-30), 3) := by decide +kernel
theorem dX12_tally_83 : decode cX12_tally 83 = .ok (.iconst 1, 1) := by decide +kernel
theorem dX12_tally_84 : decode cX12_tally 84 = .ok (.istore_n 2, 1) := by decide +kernel
theorem dX12_tally_85 : decode cX12_tally 85 = .ok (.iload_n 2, 1) := by decide +kernel
theorem dX12_tally_86 : decode cX12_tally 86 = .ok (.bipush 100, 2) := by decide +kernel
theorem dX12_tally_88 : decode cX12_tally 88 = .ok (.if_icmp .gt 26, 3) := by decide +kernel
theorem dX12_tally_91 : decode cX12_tally 91 = .ok (.aload_n 0, 1) := by decide +kernel
theorem dX12_tally_92 : decode cX12_tally 92 = .ok (.getfield 33, 3) := by decide +kernel
theorem dX12_tally_95 : decode cX12_tally 95 = .ok (.iload_n 2, 1) := by decide +kernel
theorem dX12_tally_96 : decode cX12_tally 96 = .ok (.dup2, 1) := by decide +kernel
theorem dX12_tally_97 : decode cX12_tally 97 = .ok (.iaload, 1) := by decide +kernel
theorem dX12_tally_98 : decode cX12_tally 98 = .ok (.aload_n 0, 1) := by decide +kernel
theorem dX12_tally_99 : decode cX12_tally 99 = .ok (.getfield 33, 3) := by decide +kernel
theorem dX12_tally_102 : decode cX12_tally 102 = .ok (.iload_n 2, 1) := by decide +kernel
theorem dX12_tally_103 : decode cX12_tally 103 = .ok (.iconst 1, 1) := by decide +kernel
theorem dX12_tally_104 : decode cX12_tally 104 = .ok (.isub, 1) := by decide +kernel
theorem dX12_tally_105 : decode cX12_tally 105 = .ok (.iaload, 1) := by decide +kernel
theorem dX12_tally_106 : decode cX12_tally 106 = .ok (.iadd, 1) := by decide +kernel
theorem dX12_tally_107 : decode cX12_tally 107 = .ok (.iastore, 1) := by decide +kernel
theorem dX12_tally_108 : decode cX12_tally 108 = .ok (.iinc 2 1, 3) := by decide +kernel
theorem dX12_tally_111 : decode cX12_tally 111 = .ok (.goto (-26), 3) := by decide +kernel
theorem dX12_tally_114 : decode cX12_tally 114 = .ok (.aload_n 0, 1) := by decide +kernel
theorem dX12_tally_115 : decode cX12_tally 115 = .ok (.iconst 0, 1) := by decide +kernel
theorem dX12_tally_116 : decode cX12_tally 116 = .ok (.aload_n 0, 1) := by decide +kernel
theorem dX12_tally_117 : decode cX12_tally 117 = .ok (.iload_n 1, 1) := by decide +kernel
theorem dX12_tally_118 : decode cX12_tally 118 = .ok (.iconst 0, 1) := by decide +kernel
theorem dX12_tally_119 : decode cX12_tally 119 = .ok (.iconst 0, 1) := by decide +kernel
theorem dX12_tally_120 : decode cX12_tally 120 = .ok (.invokevirtual 128, 3) := by decide +kernel
theorem dX12_tally_123 : decode cX12_tally 123 = .ok (.aload_n 0, 1) := by decide +kernel
theorem dX12_tally_124 : decode cX12_tally 124 = .ok (.iload_n 1, 1) := by decide +kernel
theorem dX12_tally_125 : decode cX12_tally 125 = .ok (.iconst 0, 1) := by decide +kernel
theorem dX12_tally_126 : decode cX12_tally 126 = .ok (.iconst 1, 1) := by decide +kernel
theorem dX12_tally_127 : decode cX12_tally 127 = .ok (.invokevirtual 128, 3) := by decide +kernel
theorem dX12_tally_130 : decode cX12_tally 130 = .ok (.aload_n 0, 1) := by decide +kernel
theorem dX12_tally_131 : decode cX12_tally 131 = .ok (.iload_n 1, 1) := by decide +kernel
theorem dX12_tally_132 : decode cX12_tally 132 = .ok (.iconst 1, 1) := by decide +kernel
theorem dX12_tally_133 : decode cX12_tally 133 = .ok (.iconst 0, 1) := by decide +kernel
theorem dX12_tally_134 : decode cX12_tally 134 = .ok (.invokevirtual 128, 3) := by decide +kernel
theorem dX12_tally_137 : decode cX12_tally 137 = .ok (.aload_n 0, 1) := by decide +kernel
theorem dX12_tally_138 : decode cX12_tally 138 = .ok (.iload_n 1, 1) := by decide +kernel
theorem dX12_tally_139 : decode cX12_tally 139 = .ok (.iconst 1, 1) := by decide +kernel
theorem dX12_tally_140 : decode cX12_tally 140 = .ok (.iconst 1, 1) := by decide +kernel
theorem dX12_tally_141 : decode cX12_tally 141 = .ok (.invokevirtual 128, 3) := by decide +kernel
theorem dX12_tally_144 : decode cX12_tally 144 = .ok (.iconst 0, 1) := by decide +kernel
theorem dX12_tally_145 : decode cX12_tally 145 = .ok (.bipush 99, 2) := by decide +kernel
theorem dX12_tally_147 : decode cX12_tally 147 = .ok (.invokevirtual 240, 3) := by decide +kernel
theorem dX12_tally_150 : decode cX12_tally 150 = .ok (.return_, 1) := by decide +kernel
set_option maxRecDepth 20000 in
theorem ggX12_box_X12_sizeOf : GoodIn wsX12_box wsX12_sizeOf := goodIn_r _ [15, 1, 53, 54, 55, 56, 57, 58, 59, 60, 61, 62, 63, 64, 65, 66, 67, 68, 69, 70, 71, 72, 73, 74, 75, 76, 77, 78, 79, 80, 81, 82, 83, 84, 85, 86, 87] (by decide +kernel) (by decide +kernel)
set_option maxRecDepth 20000 in
theorem gX12_box_X12_sizeOf : GoodIn wsX12_box (wsV RX12 244 RX12 yX12_sizeOf wsX12_sizeOf) := goodIn_app (goodIn_of _ (by decide +kernel)) ggX12_box_X12_sizeOf
set_option maxRecDepth 20000 in
theorem ggX12_box_X12_lowOf : GoodIn wsX12_box wsX12_lowOf := goodIn_r _ [19, 20, 21, 2, 53, 54, 55, 56, 57, 58, 59, 60, 61, 62, 63, 64, 65, 66, 67, 68, 69, 70, 71, 72, 73, 74, 75, 76, 77, 78, 79, 80, 81, 82, 83, 84, 85, 86, 87] (by decide +kernel) (by decide +kernel)
set_option maxRecDepth 20000 in
theorem gX12_box_X12_lowOf : GoodIn wsX12_box (wsV RX12 248 RX12 yX12_lowOf wsX12_lowOf) := goodIn_app (goodIn_of _ (by decide +kernel)) ggX12_box_X12_lowOf
set_option maxRecDepth 20000 in
theorem ggX12_box_X12_highOf : GoodIn wsX12_box wsX12_highOf := goodIn_r _ [25, 20, 26, 2, 53, 54, 55, 56, 57, 58, 59, 60, 61, 62, 63, 64, 65, 66, 67, 68, 69, 70, 71, 72, 73, 74, 75, 76, 77, 78, 79, 80, 81, 82, 83, 84, 85, 86, 87] (by decide +kernel) (by decide +kernel)
set_option maxRecDepth 20000 in
theorem gX12_box_X12_highOf : GoodIn wsX12_box (wsV RX12 251 RX12 yX12_highOf wsX12_highOf) := goodIn_app (goodIn_of _ (by decide +kernel)) ggX12_box_X12_highOf
set_option maxRecDepth 20000 in
theorem ggX12_box_X12_goes : GoodIn wsX12_box wsX12_goes := goodIn_r _ [30, 2, 3, 31, 32, 33, 14, 34, 35, 36, 37, 38, 39, 40, 41, 42, 43, 44, 45, 46, 47, 48, 49, 50, 51, 52, 11, 12, 13, 15, 1, 0, 4, 5, 6, 7, 8, 9, 10, 16, 17, 18, 19, 20, 21, 22, 23, 24, 25, 26, 27, 28, 29, 53, 54, 55, 56, 57, 58, 59, 60, 61, 62, 63, 64, 65, 66, 67, 68, 69, 70, 71, 72, 73, 74, 75, 76, 77, 78, 79, 80, 81, 82, 83, 84, 85, 86, 87] (by decide +kernel) (by decide +kernel)
set_option maxRecDepth 20000 in
theorem gX12_box_X12_goes : GoodIn wsX12_box (wsV RX12 254 RX12 yX12_goes wsX12_goes) := goodIn_app (goodIn_of _ (by decide +kernel)) ggX12_box_X12_goes
theorem dX12_box_0 : decode cX12_box 0 = .ok (.iload_n 2, 1) := by decide +kernel
theorem dX12_box_1 : decode cX12_box 1 = .ok (.iload_n 3, 1) := by decide +kernel
theorem dX12_box_2 : decode cX12_box 2 = .ok (.if_icmp .gt 36, 3) := by decide +kernel
theorem dX12_box_5 : decode cX12_box 5 = .ok (.iload 4, 2) := by decide +kernel
theorem dX12_box_7 : decode cX12_box 7 = .ok (.iload 5, 2) := by decide +kernel
theorem dX12_box_9 : decode cX12_box 9 = .ok (.if_icmp .gt 29, 3) := by decide +kernel
theorem dX12_box_12 : decode cX12_box 12 = .ok (.iload 6, 2) := by decide +kernel
theorem dX12_box_14 : decode cX12_box 14 = .ok (.iload 7, 2) := by decide +kernel
theorem dX12_box_16 : decode cX12_box 16 = .ok (.if_icmp .gt 22, 3) := by decide +kernel
theorem dX12_box_19 : decode cX12_box 19 = .ok (.aload_n 0, 1) := by decide +kernel
theorem dX12_box_20 : decode cX12_box 20 = .ok (.getfield 33, 3) := by decide +kernel
theorem dX12_box_23 : decode cX12_box 23 = .ok (.iload 7, 2) := by decide +kernel
theorem dX12_box_25 : decode cX12_box 25 = .ok (.iconst 1, 1) := by decide +kernel
theorem dX12_box_26 : decode cX12_box 26 = .ok (.iadd, 1) := by decide +kernel
theorem dX12_box_27 : decode cX12_box 27 = .ok (.iaload, 1) := by decide +kernel
theorem dX12_box_28 : decode cX12_box 28 = .ok (.aload_n 0, 1) := by decide +kernel
theorem dX12_box_29 : decode cX12_box 29 = .ok (.getfield 33, 3) := by decide +kernel
theorem dX12_box_32 : decode cX12_box 32 = .ok (.iload 6, 2) := by decide +kernel
theorem dX12_box_34 : decode cX12_box 34 = .ok (.iaload, 1) := by decide +kernel
theorem dX12_box_35 : decode cX12_box 35 = .ok (.if_icmp .ne 4, 3) := by decide +kernel
theorem dX12_box_38 : decode cX12_box 38 = .ok (.return_, 1) := by decide +kernel
theorem dX12_box_39 : decode cX12_box 39 = .ok (.iload_n 1, 1) := by decide +kernel
theorem dX12_box_40 : decode cX12_box 40 = .ok (.aload_n 0, 1) := by decide +kernel
theorem dX12_box_41 : decode cX12_box 41 = .ok (.getfield 9, 3) := by decide +kernel
theorem dX12_box_44 : decode cX12_box 44 = .ok (.iconst 1, 1) := by decide +kernel
theorem dX12_box_45 : decode cX12_box 45 = .ok (.iaload, 1) := by decide +kernel
theorem dX12_box_46 : decode cX12_box 46 = .ok (.if_icmp .lt 28, 3) := by decide +kernel
theorem dX12_box_49 : decode cX12_box 49 = .ok (.aload_n 0, 1) := by decide +kernel
theorem dX12_box_50 : decode cX12_box 50 = .ok (.getfield 36, 3) := by decide +kernel
theorem dX12_box_53 : decode cX12_box 53 = .ok (.bipush 8, 2) := by decide +kernel
theorem dX12_box_55 : decode cX12_box 55 = .ok (.dup2, 1) := by decide +kernel
theorem dX12_box_56 : decode cX12_box 56 = .ok (.laload, 1) := by decide +kernel
theorem dX12_box_57 : decode cX12_box 57 = .ok (.aload_n 0, 1) := by decide +kernel
theorem dX12_box_58 : decode cX12_box 58 = .ok (.iload_n 2, 1) := by decide +kernel
theorem dX12_box_59 : decode cX12_box 59 = .ok (.iload_n 3, 1) := by decide +kernel
theorem dX12_box_60 : decode cX12_box 60 = .ok (.iload 4, 2) := by decide +kernel
theorem dX12_box_62 : decode cX12_box 62 = .ok (.iload 5, 2) := by decide +kernel
theorem dX12_box_64 : decode cX12_box 64 = .ok (.iload 6, 2) := by decide +kernel
theorem dX12_box_66 : decode cX12_box 66 = .ok (.iload 7, 2) := by decide +kernel
theorem dX12_box_68 : decode cX12_box 68 = .ok (.invokevirtual 244, 3) := by decide +kernel
theorem dX12_box_71 : decode cX12_box 71 = .ok (.ladd, 1) := by decide +kernel
theorem dX12_box_72 : decode cX12_box 72 = .ok (.lastore, 1) := by decide +kernel
theorem dX12_box_73 : decode cX12_box 73 = .ok (.return_, 1) := by decide +kernel
theorem dX12_box_74 : decode cX12_box 74 = .ok (.aload_n 0, 1) := by decide +kernel
theorem dX12_box_75 : decode cX12_box 75 = .ok (.getfield 9, 3) := by decide +kernel
theorem dX12_box_78 : decode cX12_box 78 = .ok (.bipush 103, 2) := by decide +kernel
theorem dX12_box_80 : decode cX12_box 80 = .ok (.bipush 7, 2) := by decide +kernel
theorem dX12_box_82 : decode cX12_box 82 = .ok (.iload_n 1, 1) := by decide +kernel
theorem dX12_box_83 : decode cX12_box 83 = .ok (.imul, 1) := by decide +kernel
theorem dX12_box_84 : decode cX12_box 84 = .ok (.iadd, 1) := by decide +kernel
theorem dX12_box_85 : decode cX12_box 85 = .ok (.iaload, 1) := by decide +kernel
theorem dX12_box_86 : decode cX12_box 86 = .ok (.istore 8, 2) := by decide +kernel
theorem dX12_box_88 : decode cX12_box 88 = .ok (.aload_n 0, 1) := by decide +kernel
theorem dX12_box_89 : decode cX12_box 89 = .ok (.iload_n 1, 1) := by decide +kernel
theorem dX12_box_90 : decode cX12_box 90 = .ok (.invokevirtual 248, 3) := by decide +kernel
theorem dX12_box_93 : decode cX12_box 93 = .ok (.istore 9, 2) := by decide +kernel
theorem dX12_box_95 : decode cX12_box 95 = .ok (.aload_n 0, 1) := by decide +kernel
theorem dX12_box_96 : decode cX12_box 96 = .ok (.iload_n 1, 1) := by decide +kernel
theorem dX12_box_97 : decode cX12_box 97 = .ok (.invokevirtual 251, 3) := by decide +kernel
theorem dX12_box_100 : decode cX12_box 100 = .ok (.istore 10, 2) := by decide +kernel
theorem dX12_box_102 : decode cX12_box 102 = .ok (.iload 9, 2) := by decide +kernel
theorem dX12_box_104 : decode cX12_box 104 = .ok (.iload 10, 2) := by decide +kernel
theorem dX12_box_106 : decode cX12_box 106 = .ok (.if_icmp .le 22, 3) := by decide +kernel
theorem dX12_box_109 : decode cX12_box 109 = .ok (.aload_n 0, 1) := by decide +kernel
theorem dX12_box_110 : decode cX12_box 110 = .ok (.iload_n 1, 1) := by decide +kernel
theorem dX12_box_111 : decode cX12_box 111 = .ok (.iconst 5, 1) := by decide +kernel
theorem dX12_box_112 : decode cX12_box 112 = .ok (.iload_n 2, 1) := by decide +kernel
theorem dX12_box_113 : decode cX12_box 113 = .ok (.iload_n 3, 1) := by decide +kernel
theorem dX12_box_114 : decode cX12_box 114 = .ok (.iload 4, 2) := by decide +kernel
theorem dX12_box_116 : decode cX12_box 116 = .ok (.iload 5, 2) := by decide +kernel
theorem dX12_box_118 : decode cX12_box 118 = .ok (.iload 6, 2) := by decide +kernel
theorem dX12_box_120 : decode cX12_box 120 = .ok (.iload 7, 2) := by decide +kernel
theorem dX12_box_122 : decode cX12_box 122 = .ok (.invokevirtual 254, 3) := by decide +kernel
theorem dX12_box_125 : decode cX12_box 125 = .ok (.goto 236, 3) := by decide +kernel
theorem dX12_box_128 : decode cX12_box 128 = .ok (.iload 8, 2) := by decide +kernel
theorem dX12_box_130 : decode cX12_box 130 = .ok (.ifCond .ne 78, 3) := by decide +kernel
theorem dX12_box_133 : decode cX12_box 133 = .ok (.aload_n 0, 1) := by decide +kernel
theorem dX12_box_134 : decode cX12_box 134 = .ok (.iload_n 1, 1) := by decide +kernel
theorem dX12_box_135 : decode cX12_box 135 = .ok (.iconst 3, 1) := by decide +kernel
theorem dX12_box_136 : decode cX12_box 136 = .ok (.iload_n 2, 1) := by decide +kernel
theorem dX12_box_137 : decode cX12_box 137 = .ok (.iload 9, 2) := by decide +kernel
theorem dX12_box_139 : decode cX12_box 139 = .ok (.invokestatic 123, 3) := by decide +kernel
theorem dX12_box_142 : decode cX12_box 142 = .ok (.iload_n 3, 1) := by decide +kernel
theorem dX12_box_143 : decode cX12_box 143 = .ok (.iload 10, 2) := by decide +kernel
theorem dX12_box_145 : decode cX12_box 145 = .ok (.invokestatic 228, 3) := by decide +kernel
theorem dX12_box_148 : decode cX12_box 148 = .ok (.iload 4, 2) := by decide +kernel
theorem dX12_box_150 : decode cX12_box 150 = .ok (.iload 5, 2) := by decide +kernel
theorem dX12_box_152 : decode cX12_box 152 = .ok (.iload 6, 2) := by decide +kernel
theorem dX12_box_154 : decode cX12_box 154 = .ok (.iload 7, 2) := by decide +kernel
theorem dX12_box_156 : decode cX12_box 156 = .ok (.invokevirtual 254, 3) := by decide +kernel
theorem dX12_box_159 : decode cX12_box 159 = .ok (.aload_n 0, 1) := by decide +kernel
theorem dX12_box_160 : decode cX12_box 160 = .ok (.iload_n 1, 1) := by decide +kernel
theorem dX12_box_161 : decode cX12_box 161 = .ok (.iconst 5, 1) := by decide +kernel
theorem dX12_box_162 : decode cX12_box 162 = .ok (.iload_n 2, 1) := by decide +kernel
theorem dX12_box_163 : decode cX12_box 163 = .ok (.iload_n 3, 1) := by decide +kernel
theorem dX12_box_164 : decode cX12_box 164 = .ok (.iload 9, 2) := by decide +kernel
theorem dX12_box_166 : decode cX12_box 166 = .ok (.iconst 1, 1) := by decide +kernel
theorem dX12_box_167 : decode cX12_box 167 = .ok (.isub, 1) := by decide +kernel
theorem dX12_box_168 : decode cX12_box 168 = .ok (.invokestatic 228, 3) := by decide +kernel
theorem dX12_box_171 : decode cX12_box 171 = .ok (.iload 4, 2) := by decide +kernel
theorem dX12_box_173 : decode cX12_box 173 = .ok (.iload 5, 2) := by decide +kernel
theorem dX12_box_175 : decode cX12_box 175 = .ok (.iload 6, 2) := by decide +kernel
theorem dX12_box_177 : decode cX12_box 177 = .ok (.iload 7, 2) := by decide +kernel
theorem dX12_box_179 : decode cX12_box 179 = .ok (.invokevirtual 254, 3) := by decide +kernel
theorem dX12_box_182 : decode cX12_box 182 = .ok (.aload_n 0, 1) := by decide +kernel
theorem dX12_box_183 : decode cX12_box 183 = .ok (.iload_n 1, 1) := by decide +kernel
theorem dX12_box_184 : decode cX12_box 184 = .ok (.iconst 5, 1) := by decide +kernel
theorem dX12_box_185 : decode cX12_box 185 = .ok (.iload_n 2, 1) := by decide +kernel
theorem dX12_box_186 : decode cX12_box 186 = .ok (.iload 10, 2) := by decide +kernel
theorem dX12_box_188 : decode cX12_box 188 = .ok (.iconst 1, 1) := by decide +kernel
theorem dX12_box_189 : decode cX12_box 189 = .ok (.iadd, 1) := by decide +kernel
theorem dX12_box_190 : decode cX12_box 190 = .ok (.invokestatic 123, 3) := by decide +kernel
theorem dX12_box_193 : decode cX12_box 193 = .ok (.iload_n 3, 1) := by decide +kernel
theorem dX12_box_194 : decode cX12_box 194 = .ok (.iload 4, 2) := by decide +kernel
theorem dX12_box_196 : decode cX12_box 196 = .ok (.iload 5, 2) := by decide +kernel
theorem dX12_box_198 : decode cX12_box 198 = .ok (.iload 6, 2) := by decide +kernel
theorem dX12_box_200 : decode cX12_box 200 = .ok (.iload 7, 2) := by decide +kernel
theorem dX12_box_202 : decode cX12_box 202 = .ok (.invokevirtual 254, 3) := by decide +kernel
theorem dX12_box_205 : decode cX12_box 205 = .ok (.goto 156, 3) := by decide +kernel
theorem dX12_box_208 : decode cX12_box 208 = .ok (.iload 8, 2) := by decide +kernel
theorem dX12_box_210 : decode cX12_box 210 = .ok (.iconst 1, 1) := by decide +kernel
theorem dX12_box_211 : decode cX12_box 211 = .ok (.if_icmp .ne 78, 3) := by decide +kernel
theorem dX12_box_214 : decode cX12_box 214 = .ok (.aload_n 0, 1) := by decide +kernel
theorem dX12_box_215 : decode cX12_box 215 = .ok (.iload_n 1, 1) := by decide +kernel
theorem dX12_box_216 : decode cX12_box 216 = .ok (.iconst 3, 1) := by decide +kernel
theorem dX12_box_217 : decode cX12_box 217 = .ok (.iload_n 2, 1) := by decide +kernel
theorem dX12_box_218 : decode cX12_box 218 = .ok (.iload_n 3, 1) := by decide +kernel
theorem dX12_box_219 : decode cX12_box 219 = .ok (.iload 4, 2) := by decide +kernel
theorem dX12_box_221 : decode cX12_box 221 = .ok (.iload 9, 2) := by decide +kernel
theorem dX12_box_223 : decode cX12_box 223 = .ok (.invokestatic 123, 3) := by decide +kernel
theorem dX12_box_226 : decode cX12_box 226 = .ok (.iload 5, 2) := by decide +kernel
theorem dX12_box_228 : decode cX12_box 228 = .ok (.iload 10, 2) := by decide +kernel
theorem dX12_box_230 : decode cX12_box 230 = .ok (.invokestatic 228, 3) := by decide +kernel
theorem dX12_box_233 : decode cX12_box 233 = .ok (.iload 6, 2) := by decide +kernel
theorem dX12_box_235 : decode cX12_box 235 = .ok (.iload 7, 2) := by decide +kernel
theorem dX12_box_237 : decode cX12_box 237 = .ok (.invokevirtual 254, 3) := by decide +kernel
theorem dX12_box_240 : decode cX12_box 240 = .ok (.aload_n 0, 1) := by decide +kernel
theorem dX12_box_241 : decode cX12_box 241 = .ok (.iload_n 1, 1) := by decide +kernel
theorem dX12_box_242 : decode cX12_box 242 = .ok (.iconst 5, 1) := by decide +kernel
theorem dX12_box_243 : decode cX12_box 243 = .ok (.iload_n 2, 1) := by decide +kernel
theorem dX12_box_244 : decode cX12_box 244 = .ok (.iload_n 3, 1) := by decide +kernel
theorem dX12_box_245 : decode cX12_box 245 = .ok (.iload 4, 2) := by decide +kernel
theorem dX12_box_247 : decode cX12_box 247 = .ok (.iload 5, 2) := by decide +kernel
theorem dX12_box_249 : decode cX12_box 249 = .ok (.iload 9, 2) := by decide +kernel
theorem dX12_box_251 : decode cX12_box 251 = .ok (.iconst 1, 1) := by decide +kernel
theorem dX12_box_252 : decode cX12_box 252 = .ok (.isub, 1) := by decide +kernel
theorem dX12_box_253 : decode cX12_box 253 = .ok (.invokestatic 228, 3) := by decide +kernel
theorem dX12_box_256 : decode cX12_box 256 = .ok (.iload 6, 2) := by decide +kernel
theorem dX12_box_258 : decode cX12_box 258 = .ok (.iload 7, 2) := by decide +kernel
theorem dX12_box_260 : decode cX12_box 260 = .ok (.invokevirtual 254, 3) := by decide +kernel
theorem dX12_box_263 : decode cX12_box 263 = .ok (.aload_n 0, 1) := by decide +kernel
theorem dX12_box_264 : decode cX12_box 264 = .ok (.iload_n 1, 1) := by decide +kernel
theorem dX12_box_265 : decode cX12_box 265 = .ok (.iconst 5, 1) := by decide +kernel
theorem dX12_box_266 : decode cX12_box 266 = .ok (.iload_n 2, 1) := by decide +kernel
theorem dX12_box_267 : decode cX12_box 267 = .ok (.iload_n 3, 1) := by decide +kernel
theorem dX12_box_268 : decode cX12_box 268 = .ok (.iload 4, 2) := by decide +kernel
theorem dX12_box_270 : decode cX12_box 270 = .ok (.iload 10, 2) := by decide +kernel
theorem dX12_box_272 : decode cX12_box 272 = .ok (.iconst 1, 1) := by decide +kernel
theorem dX12_box_273 : decode cX12_box 273 = .ok (.iadd, 1) := by decide +kernel
theorem dX12_box_274 : decode cX12_box 274 = .ok (.invokestatic 123, 3) := by decide +kernel
theorem dX12_box_277 : decode cX12_box 277 = .ok (.iload 5, 2) := by decide +kernel
theorem dX12_box_279 : decode cX12_box 279 = .ok (.iload 6, 2) := by decide +kernel
theorem dX12_box_281 : decode cX12_box 281 = .ok (.iload 7, 2) := by decide +kernel
theorem dX12_box_283 : decode cX12_box 283 = .ok (.invokevirtual 254, 3) := by decide +kernel
theorem dX12_box_286 : decode cX12_box 286 = .ok (.goto 75, 3) := by decide +kernel
theorem dX12_box_289 : decode cX12_box 289 = .ok (.aload_n 0, 1) := by decide +kernel
theorem dX12_box_290 : decode cX12_box 290 = .ok (.iload_n 1, 1) := by decide +kernel
theorem dX12_box_291 : decode cX12_box 291 = .ok (.iconst 3, 1) := by decide +kernel
theorem dX12_box_292 : decode cX12_box 292 = .ok (.iload_n 2, 1) := by decide +kernel
theorem dX12_box_293 : decode cX12_box 293 = .ok (.iload_n 3, 1) := by decide +kernel
theorem dX12_box_294 : decode cX12_box 294 = .ok (.iload 4, 2) := by decide +kernel
theorem dX12_box_296 : decode cX12_box 296 = .ok (.iload 5, 2) := by decide +kernel
theorem dX12_box_298 : decode cX12_box 298 = .ok (.iload 6, 2) := by decide +kernel
theorem dX12_box_300 : decode cX12_box 300 = .ok (.iload 9, 2) := by decide +kernel
theorem dX12_box_302 : decode cX12_box 302 = .ok (.invokestatic 123, 3) := by decide +kernel
theorem dX12_box_305 : decode cX12_box 305 = .ok (.iload 7, 2) := by decide +kernel
theorem dX12_box_307 : decode cX12_box 307 = .ok (.iload 10, 2) := by decide +kernel
theorem dX12_box_309 : decode cX12_box 309 = .ok (.invokestatic 228, 3) := by decide +kernel
theorem dX12_box_312 : decode cX12_box 312 = .ok (.invokevirtual 254, 3) := by decide +kernel
theorem dX12_box_315 : decode cX12_box 315 = .ok (.aload_n 0, 1) := by decide +kernel
theorem dX12_box_316 : decode cX12_box 316 = .ok (.iload_n 1, 1) := by decide +kernel
theorem dX12_box_317 : decode cX12_box 317 = .ok (.iconst 5, 1) := by decide +kernel
theorem dX12_box_318 : decode cX12_box 318 = .ok (.iload_n 2, 1) := by decide +kernel
theorem dX12_box_319 : decode cX12_box 319 = .ok (.iload_n 3, 1) := by decide +kernel
theorem dX12_box_320 : decode cX12_box 320 = .ok (.iload 4, 2) := by decide +kernel
theorem dX12_box_322 : decode cX12_box 322 = .ok (.iload 5, 2) := by decide +kernel
theorem dX12_box_324 : decode cX12_box 324 = .ok (.iload 6, 2) := by decide +kernel
theorem dX12_box_326 : decode cX12_box 326 = .ok (.iload 7, 2) := by decide +kernel
theorem dX12_box_328 : decode cX12_box 328 = .ok (.iload 9, 2) := by decide +kernel
theorem dX12_box_330 : decode cX12_box 330 = .ok (.iconst 1, 1) := by decide +kernel
theorem dX12_box_331 : decode cX12_box 331 = .ok (.isub, 1) := by decide +kernel
theorem dX12_box_332 : decode cX12_box 332 = .ok (.invokestatic 228, 3) := by decide +kernel
theorem dX12_box_335 : decode cX12_box 335 = .ok (.invokevirtual 254, 3) := by decide +kernel
theorem dX12_box_338 : decode cX12_box 338 = .ok (.aload_n 0, 1) := by decide +kernel
theorem dX12_box_339 : decode cX12_box 339 = .ok (.iload_n 1, 1) := by decide +kernel
theorem dX12_box_340 : decode cX12_box 340 = .ok (.iconst 5, 1) := by decide +kernel
theorem dX12_box_341 : decode cX12_box 341 = .ok (.iload_n 2, 1) := by decide +kernel
theorem dX12_box_342 : decode cX12_box 342 = .ok (.iload_n 3, 1) := by decide +kernel
theorem dX12_box_343 : decode cX12_box 343 = .ok (.iload 4, 2) := by decide +kernel
theorem dX12_box_345 : decode cX12_box 345 = .ok (.iload 5, 2) := by decide +kernel
theorem dX12_box_347 : decode cX12_box 347 = .ok (.iload 6, 2) := by decide +kernel
theorem dX12_box_349 : decode cX12_box 349 = .ok (.iload 10, 2) := by decide +kernel
theorem dX12_box_351 : decode cX12_box 351 = .ok (.iconst 1, 1) := by decide +kernel
theorem dX12_box_352 : decode cX12_box 352 = .ok (.iadd, 1) := by decide +kernel
theorem dX12_box_353 : decode cX12_box 353 = .ok (.invokestatic 123, 3) := by decide +kernel
theorem dX12_box_356 : decode cX12_box 356 = .ok (.iload 7, 2) := by decide +kernel
theorem dX12_box_358 : decode cX12_box 358 = .ok (.invokevirtual 254, 3) := by decide +kernel
theorem dX12_box_361 : decode cX12_box 361 = .ok (.return_, 1) := by decide +kernel
theorem dX12_sizeOf_0 : decode cX12_sizeOf 0 = .ok (.iload_n 2, 1) := by decide +kernel
theorem dX12_sizeOf_1 : decode cX12_sizeOf 1 = .ok (.iload_n 1, 1) := by decide +kernel
theorem dX12_sizeOf_2 : decode cX12_sizeOf 2 = .ok (.isub, 1) := by decide +kernel
theorem dX12_sizeOf_3 : decode cX12_sizeOf 3 = .ok (.iconst 1, 1) := by decide +kernel
theorem dX12_sizeOf_4 : decode cX12_sizeOf 4 = .ok (.iadd, 1) := by decide +kernel
theorem dX12_sizeOf_5 : decode cX12_sizeOf 5 = .ok (.i2l, 1) := by decide +kernel
theorem dX12_sizeOf_6 : decode cX12_sizeOf 6 = .ok (.iload 4, 2) := by decide +kernel
theorem dX12_sizeOf_8 : decode cX12_sizeOf 8 = .ok (.iload_n 3, 1) := by decide +kernel
theorem dX12_sizeOf_9 : decode cX12_sizeOf 9 = .ok (.isub, 1) := by decide +kernel
theorem dX12_sizeOf_10 : decode cX12_sizeOf 10 = .ok (.iconst 1, 1) := by decide +kernel
theorem dX12_sizeOf_11 : decode cX12_sizeOf 11 = .ok (.iadd, 1) := by decide +kernel
theorem dX12_sizeOf_12 : decode cX12_sizeOf 12 = .ok (.i2l, 1) := by decide +kernel
theorem dX12_sizeOf_13 : decode cX12_sizeOf 13 = .ok (.lmul, 1) := by decide +kernel
theorem dX12_sizeOf_14 : decode cX12_sizeOf 14 = .ok (.aload_n 0, 1) := by decide +kernel
theorem dX12_sizeOf_15 : decode cX12_sizeOf 15 = .ok (.getfield 33, 3) := by decide +kernel
theorem dX12_sizeOf_18 : decode cX12_sizeOf 18 = .ok (.iload 6, 2) := by decide +kernel
theorem dX12_sizeOf_20 : decode cX12_sizeOf 20 = .ok (.iconst 1, 1) := by decide +kernel
theorem dX12_sizeOf_21 : decode cX12_sizeOf 21 = .ok (.iadd, 1) := by decide +kernel
theorem dX12_sizeOf_22 : decode cX12_sizeOf 22 = .ok (.iaload, 1) := by decide +kernel
theorem dX12_sizeOf_23 : decode cX12_sizeOf 23 = .ok (.aload_n 0, 1) := by decide +kernel
theorem dX12_sizeOf_24 : decode cX12_sizeOf 24 = .ok (.getfield 33, 3) := by decide +kernel
theorem dX12_sizeOf_27 : decode cX12_sizeOf 27 = .ok (.iload 5, 2) := by decide +kernel
theorem dX12_sizeOf_29 : decode cX12_sizeOf 29 = .ok (.iaload, 1) := by decide +kernel
theorem dX12_sizeOf_30 : decode cX12_sizeOf 30 = .ok (.isub, 1) := by decide +kernel
theorem dX12_sizeOf_31 : decode cX12_sizeOf 31 = .ok (.i2l, 1) := by decide +kernel
theorem dX12_sizeOf_32 : decode cX12_sizeOf 32 = .ok (.lmul, 1) := by decide +kernel
theorem dX12_sizeOf_33 : decode cX12_sizeOf 33 = .ok (.lreturn, 1) := by decide +kernel
set_option maxRecDepth 20000 in
theorem ggX12_goes_X12_box : GoodIn wsX12_goes wsX12_box := goodIn_r _ [31, 30, 1, 2, 32, 33, 34, 35, 36, 37, 38, 26, 27, 28, 6, 29, 39, 40, 41, 42, 43, 44, 45, 46, 47, 48, 49, 50, 51, 52, 0, 3, 4, 5, 7, 8, 9, 10, 11, 12, 13, 14, 15, 16, 17, 18, 19, 20, 21, 22, 23, 24, 25, 53, 54, 55, 56, 57, 58, 59, 60, 61, 62, 63, 64, 65, 66, 67, 68, 69, 70, 71, 72, 73, 74, 75, 76, 77, 78, 79, 80, 81, 82, 83, 84, 85, 86, 87] (by decide +kernel) (by decide +kernel)
set_option maxRecDepth 20000 in
theorem gX12_goes_X12_box : GoodIn wsX12_goes (wsV RX12 240 RX12 yX12_box wsX12_box) := goodIn_app (goodIn_of _ (by decide +kernel)) ggX12_goes_X12_box
set_option maxRecDepth 20000 in
theorem ggX12_goes_X12_isGood : GoodIn wsX12_goes wsX12_isGood := goodIn_r _ [10, 1, 11, 12, 13, 6, 14, 15, 16, 17, 18, 19, 20, 21, 22, 23, 24, 25, 53, 54, 55, 56, 57, 58, 59, 60, 61, 62, 63, 64, 65, 66, 67, 68, 69, 70, 71, 72, 73, 74, 75, 76, 77, 78, 79, 80, 81, 82, 83, 84, 85, 86, 87] (by decide +kernel) (by decide +kernel)
set_option maxRecDepth 20000 in
theorem gX12_goes_X12_isGood : GoodIn wsX12_goes (wsV RX12 120 RX12 yX12_isGood wsX12_isGood) := goodIn_app (goodIn_of _ (by decide +kernel)) ggX12_goes_X12_isGood
set_option maxRecDepth 20000 in
theorem ggX12_goes_X12_sizeOf : GoodIn wsX12_goes wsX12_sizeOf := goodIn_r _ [29, 30, 53, 54, 55, 56, 57, 58, 59, 60, 61, 62, 63, 64, 65, 66, 67, 68, 69, 70, 71, 72, 73, 74, 75, 76, 77, 78, 79, 80, 81, 82, 83, 84, 85, 86, 87] (by decide +kernel) (by decide +kernel)
set_option maxRecDepth 20000 in
theorem gX12_goes_X12_sizeOf : GoodIn wsX12_goes (wsV RX12 244 RX12 yX12_sizeOf wsX12_sizeOf) := goodIn_app (goodIn_of _ (by decide +kernel)) ggX12_goes_X12_sizeOf
theorem dX12_goes_0 : decode cX12_goes 0 = .ok (.iload_n 3, 1) := by decide +kernel
theorem dX12_goes_1 : decode cX12_goes 1 = .ok (.iload 4, 2) := by decide +kernel
theorem dX12_goes_3 : decode cX12_goes 3 = .ok (.if_icmp .gt 17, 3) := by decide +kernel
theorem dX12_goes_6 : decode cX12_goes 6 = .ok (.iload 5, 2) := by decide +kernel
theorem dX12_goes_8 : decode cX12_goes 8 = .ok (.iload 6, 2) := by decide +kernel
theorem dX12_goes_10 : decode cX12_goes 10 = .ok (.if_icmp .gt 10, 3) := by decide +kernel
theorem dX12_goes_13 : decode cX12_goes 13 = .ok (.iload 7, 2) := by decide +kernel
theorem dX12_goes_15 : decode cX12_goes 15 = .ok (.iload 8, 2) := by decide +kernel
theorem dX12_goes_17 : decode cX12_goes 17 = .ok (.if_icmp .le 4, 3) := by decide +kernel
theorem dX12_goes_20 : decode cX12_goes 20 = .ok (.return_, 1) := by decide +kernel
theorem dX12_goes_21 : decode cX12_goes 21 = .ok (.aload_n 0, 1) := by decide +kernel
theorem dX12_goes_22 : decode cX12_goes 22 = .ok (.getfield 9, 3) := by decide +kernel
theorem dX12_goes_25 : decode cX12_goes 25 = .ok (.bipush 103, 2) := by decide +kernel
theorem dX12_goes_27 : decode cX12_goes 27 = .ok (.bipush 7, 2) := by decide +kernel
theorem dX12_goes_29 : decode cX12_goes 29 = .ok (.iload_n 1, 1) := by decide +kernel
theorem dX12_goes_30 : decode cX12_goes 30 = .ok (.imul, 1) := by decide +kernel
theorem dX12_goes_31 : decode cX12_goes 31 = .ok (.iadd, 1) := by decide +kernel
theorem dX12_goes_32 : decode cX12_goes 32 = .ok (.iload_n 2, 1) := by decide +kernel
theorem dX12_goes_33 : decode cX12_goes 33 = .ok (.iadd, 1) := by decide +kernel
theorem dX12_goes_34 : decode cX12_goes 34 = .ok (.iaload, 1) := by decide +kernel
theorem dX12_goes_35 : decode cX12_goes 35 = .ok (.istore 9, 2) := by decide +kernel
theorem dX12_goes_37 : decode cX12_goes 37 = .ok (.aload_n 0, 1) := by decide +kernel
theorem dX12_goes_38 : decode cX12_goes 38 = .ok (.getfield 9, 3) := by decide +kernel
theorem dX12_goes_41 : decode cX12_goes 41 = .ok (.bipush 103, 2) := by decide +kernel
theorem dX12_goes_43 : decode cX12_goes 43 = .ok (.bipush 7, 2) := by decide +kernel
theorem dX12_goes_45 : decode cX12_goes 45 = .ok (.iload_n 1, 1) := by decide +kernel
theorem dX12_goes_46 : decode cX12_goes 46 = .ok (.imul, 1) := by decide +kernel
theorem dX12_goes_47 : decode cX12_goes 47 = .ok (.iadd, 1) := by decide +kernel
theorem dX12_goes_48 : decode cX12_goes 48 = .ok (.iload_n 2, 1) := by decide +kernel
theorem dX12_goes_49 : decode cX12_goes 49 = .ok (.iadd, 1) := by decide +kernel
theorem dX12_goes_50 : decode cX12_goes 50 = .ok (.iconst 1, 1) := by decide +kernel
theorem dX12_goes_51 : decode cX12_goes 51 = .ok (.iadd, 1) := by decide +kernel
theorem dX12_goes_52 : decode cX12_goes 52 = .ok (.iaload, 1) := by decide +kernel
theorem dX12_goes_53 : decode cX12_goes 53 = .ok (.istore 10, 2) := by decide +kernel
theorem dX12_goes_55 : decode cX12_goes 55 = .ok (.iload 9, 2) := by decide +kernel
theorem dX12_goes_57 : decode cX12_goes 57 = .ok (.ifCond .ne 24, 3) := by decide +kernel
theorem dX12_goes_60 : decode cX12_goes 60 = .ok (.aload_n 0, 1) := by decide +kernel
theorem dX12_goes_61 : decode cX12_goes 61 = .ok (.iload_n 1, 1) := by decide +kernel
theorem dX12_goes_62 : decode cX12_goes 62 = .ok (.iconst 1, 1) := by decide +kernel
theorem dX12_goes_63 : decode cX12_goes 63 = .ok (.iadd, 1) := by decide +kernel
theorem dX12_goes_64 : decode cX12_goes 64 = .ok (.iload_n 3, 1) := by decide +kernel
theorem dX12_goes_65 : decode cX12_goes 65 = .ok (.iload 4, 2) := by decide +kernel
theorem dX12_goes_67 : decode cX12_goes 67 = .ok (.iload 5, 2) := by decide +kernel
theorem dX12_goes_69 : decode cX12_goes 69 = .ok (.iload 6, 2) := by decide +kernel
theorem dX12_goes_71 : decode cX12_goes 71 = .ok (.iload 7, 2) := by decide +kernel
theorem dX12_goes_73 : decode cX12_goes 73 = .ok (.iload 8, 2) := by decide +kernel
theorem dX12_goes_75 : decode cX12_goes 75 = .ok (.invokevirtual 240, 3) := by decide +kernel
theorem dX12_goes_78 : decode cX12_goes 78 = .ok (.goto 75, 3) := by decide +kernel
theorem dX12_goes_81 : decode cX12_goes 81 = .ok (.iload 9, 2) := by decide +kernel
theorem dX12_goes_83 : decode cX12_goes 83 = .ok (.iconst 1, 1) := by decide +kernel
theorem dX12_goes_84 : decode cX12_goes 84 = .ok (.if_icmp .ne 24, 3) := by decide +kernel
theorem dX12_goes_87 : decode cX12_goes 87 = .ok (.aload_n 0, 1) := by decide +kernel
theorem dX12_goes_88 : decode cX12_goes 88 = .ok (.iload_n 1, 1) := by decide +kernel
theorem dX12_goes_89 : decode cX12_goes 89 = .ok (.iconst 2, 1) := by decide +kernel
theorem dX12_goes_90 : decode cX12_goes 90 = .ok (.iadd, 1) := by decide +kernel
theorem dX12_goes_91 : decode cX12_goes 91 = .ok (.iload_n 3, 1) := by decide +kernel
theorem dX12_goes_92 : decode cX12_goes 92 = .ok (.iload 4, 2) := by decide +kernel
theorem dX12_goes_94 : decode cX12_goes 94 = .ok (.iload 5, 2) := by decide +kernel
theorem dX12_goes_96 : decode cX12_goes 96 = .ok (.iload 6, 2) := by decide +kernel
theorem dX12_goes_98 : decode cX12_goes 98 = .ok (.iload 7, 2) := by decide +kernel
theorem dX12_goes_100 : decode cX12_goes 100 = .ok (.iload 8, 2) := by decide +kernel
theorem dX12_goes_102 : decode cX12_goes 102 = .ok (.invokevirtual 240, 3) := by decide +kernel
theorem dX12_goes_105 : decode cX12_goes 105 = .ok (.goto 48, 3) := by decide +kernel
theorem dX12_goes_108 : decode cX12_goes 108 = .ok (.aload_n 0, 1) := by decide +kernel
theorem dX12_goes_109 : decode cX12_goes 109 = .ok (.getfield 36, 3) := by decide +kernel
theorem dX12_goes_112 : decode cX12_goes 112 = .ok (.iload 9, 2) := by decide +kernel
theorem dX12_goes_114 : decode cX12_goes 114 = .ok (.iconst 2, 1) := by decide +kernel
theorem dX12_goes_115 : decode cX12_goes 115 = .ok (.if_icmp .ne 17, 3) := by decide +kernel
theorem dX12_goes_118 : decode cX12_goes 118 = .ok (.aload_n 0, 1) := by decide +kernel
theorem dX12_goes_119 : decode cX12_goes 119 = .ok (.iload 10, 2) := by decide +kernel
theorem dX12_goes_121 : decode cX12_goes 121 = .ok (.invokevirtual 120, 3) := by decide +kernel
theorem dX12_goes_124 : decode cX12_goes 124 = .ok (.ifCond .eq 8, 3) := by decide +kernel
theorem dX12_goes_127 : decode cX12_goes 127 = .ok (.iload 10, 2) := by decide +kernel
theorem dX12_goes_129 : decode cX12_goes 129 = .ok (.goto 5, 3) := by decide +kernel
theorem dX12_goes_132 : decode cX12_goes 132 = .ok (.bipush 8, 2) := by decide +kernel
theorem dX12_goes_134 : decode cX12_goes 134 = .ok (.dup2, 1) := by decide +kernel
theorem dX12_goes_135 : decode cX12_goes 135 = .ok (.laload, 1) := by decide +kernel
theorem dX12_goes_136 : decode cX12_goes 136 = .ok (.aload_n 0, 1) := by decide +kernel
theorem dX12_goes_137 : decode cX12_goes 137 = .ok (.iload_n 3, 1) := by decide +kernel
theorem dX12_goes_138 : decode cX12_goes 138 = .ok (.iload 4, 2) := by decide +kernel
theorem dX12_goes_140 : decode cX12_goes 140 = .ok (.iload 5, 2) := by decide +kernel
theorem dX12_goes_142 : decode cX12_goes 142 = .ok (.iload 6, 2) := by decide +kernel
theorem dX12_goes_144 : decode cX12_goes 144 = .ok (.iload 7, 2) := by decide +kernel
theorem dX12_goes_146 : decode cX12_goes 146 = .ok (.iload 8, 2) := by decide +kernel
theorem dX12_goes_148 : decode cX12_goes 148 = .ok (.invokevirtual 244, 3) := by decide +kernel
theorem dX12_goes_151 : decode cX12_goes 151 = .ok (.ladd, 1) := by decide +kernel
theorem dX12_goes_152 : decode cX12_goes 152 = .ok (.lastore, 1) := by decide +kernel
theorem dX12_goes_153 : decode cX12_goes 153 = .ok (.return_, 1) := by decide +kernel
set_option maxRecDepth 20000 in
theorem ggX12_takenOf_X12_heard : GoodIn wsX12_takenOf wsX12_heard := goodIn_r _ [6, 1, 7, 8, 9, 10, 11, 12, 13, 44, 45, 46, 47, 48, 49, 50, 51, 52, 53, 54, 55, 56, 57, 58, 59, 60, 61, 62, 63, 64, 65, 66, 67, 68, 69, 70, 71, 72, 73, 74, 75, 76, 77, 78] (by decide +kernel) (by decide +kernel)
set_option maxRecDepth 20000 in
theorem gX12_takenOf_X12_heard : GoodIn wsX12_takenOf (wsV RX12 237 RX12 yX12_heard wsX12_heard) := goodIn_app (goodIn_of _ (by decide +kernel)) ggX12_takenOf_X12_heard
set_option maxRecDepth 20000 in
theorem ggX12_takenOf_X12_lowOf : GoodIn wsX12_takenOf wsX12_lowOf := goodIn_r _ [17, 18, 19, 1, 44, 45, 46, 47, 48, 49, 50, 51, 52, 53, 54, 55, 56, 57, 58, 59, 60, 61, 62, 63, 64, 65, 66, 67, 68, 69, 70, 71, 72, 73, 74, 75, 76, 77, 78] (by decide +kernel) (by decide +kernel)
set_option maxRecDepth 20000 in
theorem gX12_takenOf_X12_lowOf : GoodIn wsX12_takenOf (wsV RX12 248 RX12 yX12_lowOf wsX12_lowOf) := goodIn_app (goodIn_of _ (by decide +kernel)) ggX12_takenOf_X12_lowOf
set_option maxRecDepth 20000 in
theorem ggX12_takenOf_X12_highOf : GoodIn wsX12_takenOf wsX12_highOf := goodIn_r _ [23, 18, 24, 1, 44, 45, 46, 47, 48, 49, 50, 51, 52, 53, 54, 55, 56, 57, 58, 59, 60, 61, 62, 63, 64, 65, 66, 67, 68, 69, 70, 71, 72, 73, 74, 75, 76, 77, 78] (by decide +kernel) (by decide +kernel)
set_option maxRecDepth 20000 in
theorem gX12_takenOf_X12_highOf : GoodIn wsX12_takenOf (wsV RX12 251 RX12 yX12_highOf wsX12_highOf) := goodIn_app (goodIn_of _ (by decide +kernel)) ggX12_takenOf_X12_highOf
set_option maxRecDepth 20000 in
theorem ggX12_takenOf_X12_within : GoodIn wsX12_takenOf wsX12_within := goodIn_r _ [27] (by decide +kernel) (by decide +kernel)
set_option maxRecDepth 20000 in
theorem gX12_takenOf_X12_within : GoodIn wsX12_takenOf (va_wsS RX12 83 yX12_within wsX12_within) := goodIn_app (goodIn_of _ (by decide +kernel)) ggX12_takenOf_X12_within
set_option maxRecDepth 20000 in
theorem ggX12_takenOf_X12_isGood : GoodIn wsX12_takenOf wsX12_isGood := goodIn_r _ [31, 1, 32, 33, 34, 5, 35, 36, 37, 38, 39, 25, 26, 27, 40, 41, 42, 43, 44, 45, 46, 47, 48, 49, 50, 51, 52, 53, 54, 55, 56, 57, 58, 59, 60, 61, 62, 63, 64, 65, 66, 67, 68, 69, 70, 71, 72, 73, 74, 75, 76, 77, 78] (by decide +kernel) (by decide +kernel)
set_option maxRecDepth 20000 in
theorem gX12_takenOf_X12_isGood : GoodIn wsX12_takenOf (wsV RX12 120 RX12 yX12_isGood wsX12_isGood) := goodIn_app (goodIn_of _ (by decide +kernel)) ggX12_takenOf_X12_isGood
theorem dX12_takenOf_0 : decode cX12_takenOf 0 = .ok (.iconst 0, 1) := by decide +kernel
theorem dX12_takenOf_1 : decode cX12_takenOf 1 = .ok (.istore 4, 2) := by decide +kernel
theorem dX12_takenOf_3 : decode cX12_takenOf 3 = .ok (.iload 4, 2) := by decide +kernel
theorem dX12_takenOf_5 : decode cX12_takenOf 5 = .ok (.aload_n 0, 1) := by decide +kernel
theorem dX12_takenOf_6 : decode cX12_takenOf 6 = .ok (.getfield 9, 3) := by decide +kernel
theorem dX12_takenOf_9 : decode cX12_takenOf 9 = .ok (.iconst 1, 1) := by decide +kernel
theorem dX12_takenOf_10 : decode cX12_takenOf 10 = .ok (.iaload, 1) := by decide +kernel
theorem dX12_takenOf_11 : decode cX12_takenOf 11 = .ok (.if_icmp .ge 160, 3) := by decide +kernel
theorem dX12_takenOf_14 : decode cX12_takenOf 14 = .ok (.aload_n 0, 1) := by decide +kernel
theorem dX12_takenOf_15 : decode cX12_takenOf 15 = .ok (.getfield 9, 3) := by decide +kernel
theorem dX12_takenOf_18 : decode cX12_takenOf 18 = .ok (.bipush 103, 2) := by decide +kernel
theorem dX12_takenOf_20 : decode cX12_takenOf 20 = .ok (.bipush 7, 2) := by decide +kernel
theorem dX12_takenOf_22 : decode cX12_takenOf 22 = .ok (.iload 4, 2) := by decide +kernel
theorem dX12_takenOf_24 : decode cX12_takenOf 24 = .ok (.imul, 1) := by decide +kernel
theorem dX12_takenOf_25 : decode cX12_takenOf 25 = .ok (.iadd, 1) := by decide +kernel
theorem dX12_takenOf_26 : decode cX12_takenOf 26 = .ok (.iaload, 1) := by decide +kernel
theorem dX12_takenOf_27 : decode cX12_takenOf 27 = .ok (.istore 5, 2) := by decide +kernel
theorem dX12_takenOf_29 : decode cX12_takenOf 29 = .ok (.iload 5, 2) := by decide +kernel
theorem dX12_takenOf_31 : decode cX12_takenOf 31 = .ok (.ifCond .ne 7, 3) := by decide +kernel
theorem dX12_takenOf_34 : decode cX12_takenOf 34 = .ok (.iload_n 1, 1) := by decide +kernel
theorem dX12_takenOf_35 : decode cX12_takenOf 35 = .ok (.goto 18, 3) := by decide +kernel
theorem dX12_takenOf_38 : decode cX12_takenOf 38 = .ok (.iload 5, 2) := by decide +kernel
theorem dX12_takenOf_40 : decode cX12_takenOf 40 = .ok (.iconst 1, 1) := by decide +kernel
theorem dX12_takenOf_41 : decode cX12_takenOf 41 = .ok (.if_icmp .ne 7, 3) := by decide +kernel
theorem dX12_takenOf_44 : decode cX12_takenOf 44 = .ok (.iload_n 2, 1) := by decide +kernel
theorem dX12_takenOf_45 : decode cX12_takenOf 45 = .ok (.goto 8, 3) := by decide +kernel
theorem dX12_takenOf_48 : decode cX12_takenOf 48 = .ok (.aload_n 0, 1) := by decide +kernel
theorem dX12_takenOf_49 : decode cX12_takenOf 49 = .ok (.iload_n 3, 1) := by decide +kernel
theorem dX12_takenOf_50 : decode cX12_takenOf 50 = .ok (.invokevirtual 237, 3) := by decide +kernel
theorem dX12_takenOf_53 : decode cX12_takenOf 53 = .ok (.istore 6, 2) := by decide +kernel
theorem dX12_takenOf_55 : decode cX12_takenOf 55 = .ok (.bipush 103, 2) := by decide +kernel
theorem dX12_takenOf_57 : decode cX12_takenOf 57 = .ok (.bipush 7, 2) := by decide +kernel
theorem dX12_takenOf_59 : decode cX12_takenOf 59 = .ok (.iload 4, 2) := by decide +kernel
theorem dX12_takenOf_61 : decode cX12_takenOf 61 = .ok (.imul, 1) := by decide +kernel
theorem dX12_takenOf_62 : decode cX12_takenOf 62 = .ok (.iadd, 1) := by decide +kernel
theorem dX12_takenOf_63 : decode cX12_takenOf 63 = .ok (.iload 6, 2) := by decide +kernel
theorem dX12_takenOf_65 : decode cX12_takenOf 65 = .ok (.i2l, 1) := by decide +kernel
theorem dX12_takenOf_66 : decode cX12_takenOf 66 = .ok (.aload_n 0, 1) := by decide +kernel
theorem dX12_takenOf_67 : decode cX12_takenOf 67 = .ok (.iload 4, 2) := by decide +kernel
theorem dX12_takenOf_69 : decode cX12_takenOf 69 = .ok (.invokevirtual 248, 3) := by decide +kernel
theorem dX12_takenOf_72 : decode cX12_takenOf 72 = .ok (.i2l, 1) := by decide +kernel
theorem dX12_takenOf_73 : decode cX12_takenOf 73 = .ok (.aload_n 0, 1) := by decide +kernel
theorem dX12_takenOf_74 : decode cX12_takenOf 74 = .ok (.iload 4, 2) := by decide +kernel
theorem dX12_takenOf_76 : decode cX12_takenOf 76 = .ok (.invokevirtual 251, 3) := by decide +kernel
theorem dX12_takenOf_79 : decode cX12_takenOf 79 = .ok (.i2l, 1) := by decide +kernel
theorem dX12_takenOf_80 : decode cX12_takenOf 80 = .ok (.invokestatic 83, 3) := by decide +kernel
theorem dX12_takenOf_83 : decode cX12_takenOf 83 = .ok (.ifCond .eq 7, 3) := by decide +kernel
theorem dX12_takenOf_86 : decode cX12_takenOf 86 = .ok (.iconst 3, 1) := by decide +kernel
theorem dX12_takenOf_87 : decode cX12_takenOf 87 = .ok (.goto 4, 3) := by decide +kernel
theorem dX12_takenOf_90 : decode cX12_takenOf 90 = .ok (.iconst 5, 1) := by decide +kernel
theorem dX12_takenOf_91 : decode cX12_takenOf 91 = .ok (.iadd, 1) := by decide +kernel
theorem dX12_takenOf_92 : decode cX12_takenOf 92 = .ok (.istore 7, 2) := by decide +kernel
theorem dX12_takenOf_94 : decode cX12_takenOf 94 = .ok (.aload_n 0, 1) := by decide +kernel
theorem dX12_takenOf_95 : decode cX12_takenOf 95 = .ok (.getfield 9, 3) := by decide +kernel
theorem dX12_takenOf_98 : decode cX12_takenOf 98 = .ok (.iload 7, 2) := by decide +kernel
theorem dX12_takenOf_100 : decode cX12_takenOf 100 = .ok (.iaload, 1) := by decide +kernel
theorem dX12_takenOf_101 : decode cX12_takenOf 101 = .ok (.iconst 3, 1) := by decide +kernel
theorem dX12_takenOf_102 : decode cX12_takenOf 102 = .ok (.if_icmp .ne 5, 3) := by decide +kernel
theorem dX12_takenOf_105 : decode cX12_takenOf 105 = .ok (.iconst (-1), 1) := by decide +kernel
theorem dX12_takenOf_106 : decode cX12_takenOf 106 = .ok (.ireturn, 1) := by decide +kernel
theorem dX12_takenOf_107 : decode cX12_takenOf 107 = .ok (.aload_n 0, 1) := by decide +kernel
theorem dX12_takenOf_108 : decode cX12_takenOf 108 = .ok (.getfield 9, 3) := by decide +kernel
theorem dX12_takenOf_111 : decode cX12_takenOf 111 = .ok (.iload 7, 2) := by decide +kernel
theorem dX12_takenOf_113 : decode cX12_takenOf 113 = .ok (.iaload, 1) := by decide +kernel
theorem dX12_takenOf_114 : decode cX12_takenOf 114 = .ok (.iconst 2, 1) := by decide +kernel
theorem dX12_takenOf_115 : decode cX12_takenOf 115 = .ok (.if_icmp .ne 33, 3) := by decide +kernel
theorem dX12_takenOf_118 : decode cX12_takenOf 118 = .ok (.aload_n 0, 1) := by decide +kernel
theorem dX12_takenOf_119 : decode cX12_takenOf 119 = .ok (.aload_n 0, 1) := by decide +kernel
theorem dX12_takenOf_120 : decode cX12_takenOf 120 = .ok (.getfield 9, 3) := by decide +kernel
theorem dX12_takenOf_123 : decode cX12_takenOf 123 = .ok (.iload 7, 2) := by decide +kernel
theorem dX12_takenOf_125 : decode cX12_takenOf 125 = .ok (.iconst 1, 1) := by decide +kernel
theorem dX12_takenOf_126 : decode cX12_takenOf 126 = .ok (.iadd, 1) := by decide +kernel
theorem dX12_takenOf_127 : decode cX12_takenOf 127 = .ok (.iaload, 1) := by decide +kernel
theorem dX12_takenOf_128 : decode cX12_takenOf 128 = .ok (.invokevirtual 120, 3) := by decide +kernel
theorem dX12_takenOf_131 : decode cX12_takenOf 131 = .ok (.ifCond .eq 15, 3) := by decide +kernel
theorem dX12_takenOf_134 : decode cX12_takenOf 134 = .ok (.aload_n 0, 1) := by decide +kernel
theorem dX12_takenOf_135 : decode cX12_takenOf 135 = .ok (.getfield 9, 3) := by decide +kernel
theorem dX12_takenOf_138 : decode cX12_takenOf 138 = .ok (.iload 7, 2) := by decide +kernel
theorem dX12_takenOf_140 : decode cX12_takenOf 140 = .ok (.iconst 1, 1) := by decide +kernel
theorem dX12_takenOf_141 : decode cX12_takenOf 141 = .ok (.iadd, 1) := by decide +kernel
theorem dX12_takenOf_142 : decode cX12_takenOf 142 = .ok (.iaload, 1) := by decide +kernel
theorem dX12_takenOf_143 : decode cX12_takenOf 143 = .ok (.goto 4, 3) := by decide +kernel
theorem dX12_takenOf_146 : decode cX12_takenOf 146 = .ok (.iconst (-1), 1) := by decide +kernel
theorem dX12_takenOf_147 : decode cX12_takenOf 147 = .ok (.ireturn, 1) := by decide +kernel
theorem dX12_takenOf_148 : decode cX12_takenOf 148 = .ok (.iload 4, 2) := by decide +kernel
theorem dX12_takenOf_150 : decode cX12_takenOf 150 = .ok (.aload_n 0, 1) := by decide +kernel
theorem dX12_takenOf_151 : decode cX12_takenOf 151 = .ok (.getfield 9, 3) := by decide +kernel
theorem dX12_takenOf_154 : decode cX12_takenOf 154 = .ok (.iload 7, 2) := by decide +kernel
theorem dX12_takenOf_156 : decode cX12_takenOf 156 = .ok (.iaload, 1) := by decide +kernel
theorem dX12_takenOf_157 : decode cX12_takenOf 157 = .ok (.ifCond .ne 7, 3) := by decide +kernel
theorem dX12_takenOf_160 : decode cX12_takenOf 160 = .ok (.iconst 1, 1) := by decide +kernel
theorem dX12_takenOf_161 : decode cX12_takenOf 161 = .ok (.goto 4, 3) := by decide +kernel
theorem dX12_takenOf_164 : decode cX12_takenOf 164 = .ok (.iconst 2, 1) := by decide +kernel
theorem dX12_takenOf_165 : decode cX12_takenOf 165 = .ok (.iadd, 1) := by decide +kernel
theorem dX12_takenOf_166 : decode cX12_takenOf 166 = .ok (.istore 4, 2) := by decide +kernel
theorem dX12_takenOf_168 : decode cX12_takenOf 168 = .ok (.goto (-165), 3) := by decide +kernel
theorem dX12_takenOf_171 : decode cX12_takenOf 171 = .ok (.iconst (-1), 1) := by decide +kernel
theorem dX12_takenOf_172 : decode cX12_takenOf 172 = .ok (.ireturn, 1) := by decide +kernel
set_option maxRecDepth 20000 in
theorem ggX12_taken_X12_within : GoodIn wsX12_taken wsX12_within := goodIn_r _ [6] (by decide +kernel) (by decide +kernel)
set_option maxRecDepth 20000 in
theorem gX12_taken_X12_within : GoodIn wsX12_taken (va_wsS RX12 83 yX12_within wsX12_within) := goodIn_app (goodIn_of _ (by decide +kernel)) ggX12_taken_X12_within
set_option maxRecDepth 20000 in
theorem ggX12_taken_X12_takenOf : GoodIn wsX12_taken wsX12_takenOf := goodIn_r _ [10, 11, 12, 13, 14, 5, 15, 16, 17, 18, 19, 20, 21, 22, 23, 24, 25, 26, 27, 28, 29, 30, 31, 32, 33, 3, 4, 6, 34, 35, 36, 37, 38, 39, 40, 41, 42, 43, 44, 45, 46, 47, 48, 49, 54, 55, 56, 57, 58, 59, 60, 61, 62, 63, 64, 65, 66, 67, 68, 69, 70, 71, 72, 73, 74, 75, 76, 77, 78, 79, 80, 81, 82, 83, 84, 85, 86, 87, 88] (by decide +kernel) (by decide +kernel)
set_option maxRecDepth 20000 in
theorem gX12_taken_X12_takenOf : GoodIn wsX12_taken (wsV RX12 258 RX12 yX12_takenOf wsX12_takenOf) := goodIn_app (goodIn_of _ (by decide +kernel)) ggX12_taken_X12_takenOf
set_option maxRecDepth 20000 in
theorem ggX12_taken_X12_fails : GoodIn wsX12_taken wsX12_fails := goodIn_r _ [53, 1, 54, 55, 56, 57, 58, 59, 60, 61, 62, 63, 64, 65, 66, 67, 68, 69, 70, 71, 72, 73, 74, 75, 76, 77, 78, 79, 80, 81, 82, 83, 84, 85, 86, 87, 88] (by decide +kernel) (by decide +kernel)
set_option maxRecDepth 20000 in
theorem gX12_taken_X12_fails : GoodIn wsX12_taken (wsV RX12 95 RX12 yX12_fails wsX12_fails) := goodIn_app (goodIn_of _ (by decide +kernel)) ggX12_taken_X12_fails
theorem dX12_taken_0 : decode cX12_taken 0 = .ok (.aload_n 0, 1) := by decide +kernel
theorem dX12_taken_1 : decode cX12_taken 1 = .ok (.iconst 0, 1) := by decide +kernel
theorem dX12_taken_2 : decode cX12_taken 2 = .ok (.putfield 80, 3) := by decide +kernel
theorem dX12_taken_5 : decode cX12_taken 5 = .ok (.iload_n 1, 1) := by decide +kernel
theorem dX12_taken_6 : decode cX12_taken 6 = .ok (.i2l, 1) := by decide +kernel
theorem dX12_taken_7 : decode cX12_taken 7 = .ok (.lconst 0, 1) := by decide +kernel
theorem dX12_taken_8 : decode cX12_taken 8 = .ok (.ldc2_w 105, 3) := by decide +kernel
theorem dX12_taken_11 : decode cX12_taken 11 = .ok (.invokestatic 83, 3) := by decide +kernel
theorem dX12_taken_14 : decode cX12_taken 14 = .ok (.ifCond .eq 37, 3) := by decide +kernel
theorem dX12_taken_17 : decode cX12_taken 17 = .ok (.iload_n 2, 1) := by decide +kernel
theorem dX12_taken_18 : decode cX12_taken 18 = .ok (.i2l, 1) := by decide +kernel
theorem dX12_taken_19 : decode cX12_taken 19 = .ok (.lconst 0, 1) := by decide +kernel
theorem dX12_taken_20 : decode cX12_taken 20 = .ok (.ldc2_w 105, 3) := by decide +kernel
theorem dX12_taken_23 : decode cX12_taken 23 = .ok (.invokestatic 83, 3) := by decide +kernel
theorem dX12_taken_26 : decode cX12_taken 26 = .ok (.ifCond .eq 25, 3) := by decide +kernel
theorem dX12_taken_29 : decode cX12_taken 29 = .ok (.iload_n 3, 1) := by decide +kernel
theorem dX12_taken_30 : decode cX12_taken 30 = .ok (.i2l, 1) := by decide +kernel
theorem dX12_taken_31 : decode cX12_taken 31 = .ok (.lconst 0, 1) := by decide +kernel
theorem dX12_taken_32 : decode cX12_taken 32 = .ok (.ldc2_w 105, 3) := by decide +kernel
theorem dX12_taken_35 : decode cX12_taken 35 = .ok (.invokestatic 83, 3) := by decide +kernel
theorem dX12_taken_38 : decode cX12_taken 38 = .ok (.ifCond .eq 13, 3) := by decide +kernel
theorem dX12_taken_41 : decode cX12_taken 41 = .ok (.aload_n 0, 1) := by decide +kernel
theorem dX12_taken_42 : decode cX12_taken 42 = .ok (.iload_n 1, 1) := by decide +kernel
theorem dX12_taken_43 : decode cX12_taken 43 = .ok (.iload_n 2, 1) := by decide +kernel
theorem dX12_taken_44 : decode cX12_taken 44 = .ok (.iload_n 3, 1) := by decide +kernel
theorem dX12_taken_45 : decode cX12_taken 45 = .ok (.invokevirtual 258, 3) := by decide +kernel
theorem dX12_taken_48 : decode cX12_taken 48 = .ok (.goto 8, 3) := by decide +kernel
theorem dX12_taken_51 : decode cX12_taken 51 = .ok (.aload_n 0, 1) := by decide +kernel
theorem dX12_taken_52 : decode cX12_taken 52 = .ok (.iconst 1, 1) := by decide +kernel
theorem dX12_taken_53 : decode cX12_taken 53 = .ok (.invokevirtual 95, 3) := by decide +kernel
theorem dX12_taken_56 : decode cX12_taken 56 = .ok (.ireturn, 1) := by decide +kernel
set_option maxRecDepth 20000 in
theorem ggX12_passes_X12_isSort : GoodIn wsX12_passes wsX12_isSort := goodIn_r _ [7, 8, 9, 10, 6, 11, 12, 13, 14, 15, 71, 72, 73, 74, 75, 76, 77, 78, 79, 80, 81, 82, 83, 84, 85, 86, 87, 88, 89, 90, 91, 92, 93, 94, 95, 96, 97, 98, 99, 100, 101, 102, 103, 104, 105] (by decide +kernel) (by decide +kernel)
set_option maxRecDepth 20000 in
theorem gX12_passes_X12_isSort : GoodIn wsX12_passes (wsV RX12 99 RX12 yX12_isSort wsX12_isSort) := goodIn_app (goodIn_of _ (by decide +kernel)) ggX12_passes_X12_isSort
set_option maxRecDepth 20000 in
theorem ggX12_passes_X12_fails : GoodIn wsX12_passes wsX12_fails := goodIn_r _ [19, 1, 71, 72, 73, 74, 75, 76, 77, 78, 79, 80, 81, 82, 83, 84, 85, 86, 87, 88, 89, 90, 91, 92, 93, 94, 95, 96, 97, 98, 99, 100, 101, 102, 103, 104, 105] (by decide +kernel) (by decide +kernel)
set_option maxRecDepth 20000 in
theorem gX12_passes_X12_fails : GoodIn wsX12_passes (wsV RX12 95 RX12 yX12_fails wsX12_fails) := goodIn_app (goodIn_of _ (by decide +kernel)) ggX12_passes_X12_fails
set_option maxRecDepth 20000 in
theorem ggX12_passes_X12_tally : GoodIn wsX12_passes wsX12_tally := goodIn_r _ [23, 2, 24, 25, 26, 27, 6, 28, 12, 29, 30, 31, 32, 33, 34, 35, 36, 37, 38, 39, 40, 41, 42, 43, 44, 45, 46, 47, 48, 49, 50, 51, 52, 53, 54, 55, 56, 57, 58, 59, 60, 61, 62, 63, 64, 65, 66, 67, 68, 69, 70, 3, 4, 5, 7, 8, 9, 10, 11, 13, 14, 15, 71, 72, 73, 74, 75, 76, 77, 78, 79, 80, 81, 82, 83, 84, 85, 86, 87, 88, 89, 90, 91, 92, 93, 94, 95, 96, 97, 98, 99, 100, 101, 102, 103, 104, 105] (by decide +kernel) (by decide +kernel)
set_option maxRecDepth 20000 in
theorem gX12_passes_X12_tally : GoodIn wsX12_passes (wsV RX12 261 RX12 yX12_tally wsX12_tally) := goodIn_app (goodIn_of _ (by decide +kernel)) ggX12_passes_X12_tally
theorem dX12_passes_0 : decode cX12_passes 0 = .ok (.aload_n 0, 1) := by decide +kernel
theorem dX12_passes_1 : decode cX12_passes 1 = .ok (.iconst 0, 1) := by decide +kernel
theorem dX12_passes_2 : decode cX12_passes 2 = .ok (.putfield 80, 3) := by decide +kernel
theorem dX12_passes_5 : decode cX12_passes 5 = .ok (.aload_n 0, 1) := by decide +kernel
theorem dX12_passes_6 : decode cX12_passes 6 = .ok (.iload_n 1, 1) := by decide +kernel
theorem dX12_passes_7 : decode cX12_passes 7 = .ok (.invokevirtual 99, 3) := by decide +kernel
theorem dX12_passes_10 : decode cX12_passes 10 = .ok (.ifCond .eq 16, 3) := by decide +kernel
theorem dX12_passes_13 : decode cX12_passes 13 = .ok (.iload_n 2, 1) := by decide +kernel
theorem dX12_passes_14 : decode cX12_passes 14 = .ok (.iconst (-1), 1) := by decide +kernel
theorem dX12_passes_15 : decode cX12_passes 15 = .ok (.if_icmp .eq 18, 3) := by decide +kernel
theorem dX12_passes_18 : decode cX12_passes 18 = .ok (.aload_n 0, 1) := by decide +kernel
theorem dX12_passes_19 : decode cX12_passes 19 = .ok (.iload_n 2, 1) := by decide +kernel
theorem dX12_passes_20 : decode cX12_passes 20 = .ok (.invokevirtual 99, 3) := by decide +kernel
theorem dX12_passes_23 : decode cX12_passes 23 = .ok (.ifCond .ne 10, 3) := by decide +kernel
theorem dX12_passes_26 : decode cX12_passes 26 = .ok (.aload_n 0, 1) := by decide +kernel
theorem dX12_passes_27 : decode cX12_passes 27 = .ok (.iconst 1, 1) := by decide +kernel
theorem dX12_passes_28 : decode cX12_passes 28 = .ok (.invokevirtual 95, 3) := by decide +kernel
theorem dX12_passes_31 : decode cX12_passes 31 = .ok (.i2l, 1) := by decide +kernel
theorem dX12_passes_32 : decode cX12_passes 32 = .ok (.lreturn, 1) := by decide +kernel
theorem dX12_passes_33 : decode cX12_passes 33 = .ok (.aload_n 0, 1) := by decide +kernel
theorem dX12_passes_34 : decode cX12_passes 34 = .ok (.iload_n 1, 1) := by decide +kernel
theorem dX12_passes_35 : decode cX12_passes 35 = .ok (.invokevirtual 261, 3) := by decide +kernel
theorem dX12_passes_38 : decode cX12_passes 38 = .ok (.aload_n 0, 1) := by decide +kernel
theorem dX12_passes_39 : decode cX12_passes 39 = .ok (.getfield 36, 3) := by decide +kernel
theorem dX12_passes_42 : decode cX12_passes 42 = .ok (.iload_n 2, 1) := by decide +kernel
theorem dX12_passes_43 : decode cX12_passes 43 = .ok (.iconst (-1), 1) := by decide +kernel
theorem dX12_passes_44 : decode cX12_passes 44 = .ok (.if_icmp .ne 8, 3) := by decide +kernel
theorem dX12_passes_47 : decode cX12_passes 47 = .ok (.bipush 8, 2) := by decide +kernel
theorem dX12_passes_49 : decode cX12_passes 49 = .ok (.goto 4, 3) := by decide +kernel
theorem dX12_passes_52 : decode cX12_passes 52 = .ok (.iload_n 2, 1) := by decide +kernel
theorem dX12_passes_53 : decode cX12_passes 53 = .ok (.laload, 1) := by decide +kernel
theorem dX12_passes_54 : decode cX12_passes 54 = .ok (.lreturn, 1) := by decide +kernel
set_option maxRecDepth 20000 in
theorem ggX12_wrongOf_X12_tally : GoodIn wsX12_wrongOf wsX12_tally := goodIn_r _ [12, 1, 13, 14, 15, 16, 11, 17, 2, 3, 4, 5, 6, 18, 19, 20, 21, 22, 23, 24, 25, 26, 27, 28, 29, 30, 31, 32, 33, 34, 35, 36, 37, 38, 39, 40, 41, 42, 43, 44, 45, 46, 47, 48, 49, 50, 51, 52, 53, 54, 55, 56, 57, 58, 59, 60, 61, 62, 63, 64, 65, 66, 75, 76, 77, 78, 79, 80, 81, 82, 83, 84, 85, 86, 87, 88, 89, 90, 91, 92, 93, 94, 95, 96, 97, 98, 99, 100, 101, 102, 103, 104, 105, 106, 107, 108, 109] (by decide +kernel) (by decide +kernel)
set_option maxRecDepth 20000 in
theorem gX12_wrongOf_X12_tally : GoodIn wsX12_wrongOf (wsV RX12 261 RX12 yX12_tally wsX12_tally) := goodIn_app (goodIn_of _ (by decide +kernel)) ggX12_wrongOf_X12_tally
set_option maxRecDepth 20000 in
theorem ggX12_wrongOf_X12_isGood : GoodIn wsX12_wrongOf wsX12_isGood := goodIn_r _ [55, 2, 56, 57, 58, 11, 59, 60, 61, 62, 63, 64, 65, 66, 18, 19, 20, 21, 75, 76, 77, 78, 79, 80, 81, 82, 83, 84, 85, 86, 87, 88, 89, 90, 91, 92, 93, 94, 95, 96, 97, 98, 99, 100, 101, 102, 103, 104, 105, 106, 107, 108, 109] (by decide +kernel) (by decide +kernel)
set_option maxRecDepth 20000 in
theorem gX12_wrongOf_X12_isGood : GoodIn wsX12_wrongOf (wsV RX12 120 RX12 yX12_isGood wsX12_isGood) := goodIn_app (goodIn_of _ (by decide +kernel)) ggX12_wrongOf_X12_isGood
set_option maxRecDepth 20000 in
theorem ggX12_wrongOf_X12_valueOf : GoodIn wsX12_wrongOf wsX12_valueOf := goodIn_r _ [70, 52, 53, 54, 11, 55, 2, 56, 57, 58, 59, 60, 61, 62, 63, 64, 65, 66, 18, 19, 20, 21, 75, 76, 77, 78, 79, 80, 81, 82, 83, 84, 85, 86, 87, 88, 89, 90, 91, 92, 93, 94, 95, 96, 97, 98, 99, 100, 101, 102, 103, 104, 105, 106, 107, 108, 109] (by decide +kernel) (by decide +kernel)
set_option maxRecDepth 20000 in
theorem gX12_wrongOf_X12_valueOf : GoodIn wsX12_wrongOf (wsV RX12 264 RX12 yX12_valueOf wsX12_valueOf) := goodIn_app (goodIn_of _ (by decide +kernel)) ggX12_wrongOf_X12_valueOf
set_option maxRecDepth 20000 in
theorem ggX12_wrongOf_X12_many : GoodIn wsX12_wrongOf wsX12_many := goodIn_r _ [74, 14, 15, 16, 11, 17, 2, 3, 4, 5, 6, 18, 19, 20, 21, 75, 76, 77, 78, 79, 80, 81, 82, 83, 84, 85, 86, 87, 88, 89, 90, 91, 92, 93, 94, 95, 96, 97, 98, 99, 100, 101, 102, 103, 104, 105, 106, 107, 108, 109] (by decide +kernel) (by decide +kernel)
set_option maxRecDepth 20000 in
theorem gX12_wrongOf_X12_many : GoodIn wsX12_wrongOf (wsV RX12 132 RX12 yX12_many wsX12_many) := goodIn_app (goodIn_of _ (by decide +kernel)) ggX12_wrongOf_X12_many
theorem dX12_wrongOf_0 : decode cX12_wrongOf 0 = .ok (.aload_n 0, 1) := by decide +kernel
theorem dX12_wrongOf_1 : decode cX12_wrongOf 1 = .ok (.iload_n 1, 1) := by decide +kernel
theorem dX12_wrongOf_2 : decode cX12_wrongOf 2 = .ok (.invokevirtual 261, 3) := by decide +kernel
theorem dX12_wrongOf_5 : decode cX12_wrongOf 5 = .ok (.aload_n 0, 1) := by decide +kernel
theorem dX12_wrongOf_6 : decode cX12_wrongOf 6 = .ok (.iload_n 1, 1) := by decide +kernel
theorem dX12_wrongOf_7 : decode cX12_wrongOf 7 = .ok (.invokevirtual 120, 3) := by decide +kernel
theorem dX12_wrongOf_10 : decode cX12_wrongOf 10 = .ok (.ifCond .eq 22, 3) := by decide +kernel
theorem dX12_wrongOf_13 : decode cX12_wrongOf 13 = .ok (.aload_n 0, 1) := by decide +kernel
theorem dX12_wrongOf_14 : decode cX12_wrongOf 14 = .ok (.getfield 36, 3) := by decide +kernel
theorem dX12_wrongOf_17 : decode cX12_wrongOf 17 = .ok (.bipush 8, 2) := by decide +kernel
theorem dX12_wrongOf_19 : decode cX12_wrongOf 19 = .ok (.laload, 1) := by decide +kernel
theorem dX12_wrongOf_20 : decode cX12_wrongOf 20 = .ok (.aload_n 0, 1) := by decide +kernel
theorem dX12_wrongOf_21 : decode cX12_wrongOf 21 = .ok (.getfield 9, 3) := by decide +kernel
theorem dX12_wrongOf_24 : decode cX12_wrongOf 24 = .ok (.bipush 10, 2) := by decide +kernel
theorem dX12_wrongOf_26 : decode cX12_wrongOf 26 = .ok (.iaload, 1) := by decide +kernel
theorem dX12_wrongOf_27 : decode cX12_wrongOf 27 = .ok (.i2l, 1) := by decide +kernel
theorem dX12_wrongOf_28 : decode cX12_wrongOf 28 = .ok (.lmul, 1) := by decide +kernel
theorem dX12_wrongOf_29 : decode cX12_wrongOf 29 = .ok (.goto 4, 3) := by decide +kernel
theorem dX12_wrongOf_32 : decode cX12_wrongOf 32 = .ok (.lconst 0, 1) := by decide +kernel
theorem dX12_wrongOf_33 : decode cX12_wrongOf 33 = .ok (.lstore_n 2, 1) := by decide +kernel
theorem dX12_wrongOf_34 : decode cX12_wrongOf 34 = .ok (.iconst 0, 1) := by decide +kernel
theorem dX12_wrongOf_35 : decode cX12_wrongOf 35 = .ok (.istore 4, 2) := by decide +kernel
theorem dX12_wrongOf_37 : decode cX12_wrongOf 37 = .ok (.iload 4, 2) := by decide +kernel
theorem dX12_wrongOf_39 : decode cX12_wrongOf 39 = .ok (.aload_n 0, 1) := by decide +kernel
theorem dX12_wrongOf_40 : decode cX12_wrongOf 40 = .ok (.getfield 9, 3) := by decide +kernel
theorem dX12_wrongOf_43 : decode cX12_wrongOf 43 = .ok (.iconst 0, 1) := by decide +kernel
theorem dX12_wrongOf_44 : decode cX12_wrongOf 44 = .ok (.iaload, 1) := by decide +kernel
theorem dX12_wrongOf_45 : decode cX12_wrongOf 45 = .ok (.if_icmp .ge 43, 3) := by decide +kernel
theorem dX12_wrongOf_48 : decode cX12_wrongOf 48 = .ok (.iload 4, 2) := by decide +kernel
theorem dX12_wrongOf_50 : decode cX12_wrongOf 50 = .ok (.iload_n 1, 1) := by decide +kernel
theorem dX12_wrongOf_51 : decode cX12_wrongOf 51 = .ok (.if_icmp .eq 31, 3) := by decide +kernel
theorem dX12_wrongOf_54 : decode cX12_wrongOf 54 = .ok (.lload_n 2, 1) := by decide +kernel
theorem dX12_wrongOf_55 : decode cX12_wrongOf 55 = .ok (.aload_n 0, 1) := by decide +kernel
theorem dX12_wrongOf_56 : decode cX12_wrongOf 56 = .ok (.getfield 36, 3) := by decide +kernel
theorem dX12_wrongOf_59 : decode cX12_wrongOf 59 = .ok (.iload 4, 2) := by decide +kernel
theorem dX12_wrongOf_61 : decode cX12_wrongOf 61 = .ok (.laload, 1) := by decide +kernel
theorem dX12_wrongOf_62 : decode cX12_wrongOf 62 = .ok (.iconst 0, 1) := by decide +kernel
theorem dX12_wrongOf_63 : decode cX12_wrongOf 63 = .ok (.aload_n 0, 1) := by decide +kernel
theorem dX12_wrongOf_64 : decode cX12_wrongOf 64 = .ok (.iload 4, 2) := by decide +kernel
theorem dX12_wrongOf_66 : decode cX12_wrongOf 66 = .ok (.invokevirtual 264, 3) := by decide +kernel
theorem dX12_wrongOf_69 : decode cX12_wrongOf 69 = .ok (.aload_n 0, 1) := by decide +kernel
theorem dX12_wrongOf_70 : decode cX12_wrongOf 70 = .ok (.iload_n 1, 1) := by decide +kernel
theorem dX12_wrongOf_71 : decode cX12_wrongOf 71 = .ok (.invokevirtual 264, 3) := by decide +kernel
theorem dX12_wrongOf_74 : decode cX12_wrongOf 74 = .ok (.isub, 1) := by decide +kernel
theorem dX12_wrongOf_75 : decode cX12_wrongOf 75 = .ok (.invokestatic 123, 3) := by decide +kernel
theorem dX12_wrongOf_78 : decode cX12_wrongOf 78 = .ok (.i2l, 1) := by decide +kernel
theorem dX12_wrongOf_79 : decode cX12_wrongOf 79 = .ok (.lmul, 1) := by decide +kernel
theorem dX12_wrongOf_80 : decode cX12_wrongOf 80 = .ok (.ladd, 1) := by decide +kernel
theorem dX12_wrongOf_81 : decode cX12_wrongOf 81 = .ok (.lstore_n 2, 1) := by decide +kernel
theorem dX12_wrongOf_82 : decode cX12_wrongOf 82 = .ok (.iinc 4 1, 3) := by decide +kernel
theorem dX12_wrongOf_85 : decode cX12_wrongOf 85 = .ok (.goto (-48), 3) := by decide +kernel
theorem dX12_wrongOf_88 : decode cX12_wrongOf 88 = .ok (.lload_n 2, 1) := by decide +kernel
theorem dX12_wrongOf_89 : decode cX12_wrongOf 89 = .ok (.ldc2_w 267, 3) := by decide +kernel
theorem dX12_wrongOf_92 : decode cX12_wrongOf 92 = .ok (.lmul, 1) := by decide +kernel
theorem dX12_wrongOf_93 : decode cX12_wrongOf 93 = .ok (.aload_n 0, 1) := by decide +kernel
theorem dX12_wrongOf_94 : decode cX12_wrongOf 94 = .ok (.iload_n 1, 1) := by decide +kernel
theorem dX12_wrongOf_95 : decode cX12_wrongOf 95 = .ok (.invokevirtual 132, 3) := by decide +kernel
theorem dX12_wrongOf_98 : decode cX12_wrongOf 98 = .ok (.ldiv, 1) := by decide +kernel
theorem dX12_wrongOf_99 : decode cX12_wrongOf 99 = .ok (.lreturn, 1) := by decide +kernel
set_option maxRecDepth 20000 in
theorem ggX12_wrong_X12_isSort : GoodIn wsX12_wrong wsX12_isSort := goodIn_r _ [6, 7, 8, 9, 5, 10, 11, 12, 13, 14, 84, 85, 86, 87, 88, 89, 90, 91, 92, 93, 94, 95, 96, 97, 98, 99, 100, 101, 102, 103, 104, 105, 106, 107, 108, 109, 110, 111, 112, 113, 114, 115, 116, 117, 118] (by decide +kernel) (by decide +kernel)
set_option maxRecDepth 20000 in
theorem gX12_wrong_X12_isSort : GoodIn wsX12_wrong (wsV RX12 99 RX12 yX12_isSort wsX12_isSort) := goodIn_app (goodIn_of _ (by decide +kernel)) ggX12_wrong_X12_isSort
set_option maxRecDepth 20000 in
theorem ggX12_wrong_X12_wrongOf : GoodIn wsX12_wrong wsX12_wrongOf := goodIn_r _ [18, 19, 11, 20, 21, 22, 23, 24, 25, 26, 27, 5, 28, 29, 30, 31, 32, 33, 34, 35, 36, 37, 38, 39, 40, 41, 42, 43, 44, 45, 46, 47, 48, 49, 50, 51, 52, 53, 54, 55, 56, 57, 58, 59, 60, 61, 62, 63, 64, 65, 66, 67, 68, 69, 70, 71, 2, 3, 4, 6, 7, 8, 9, 10, 12, 13, 14, 72, 73, 74, 75, 76, 77, 78, 79, 84, 85, 86, 87, 88, 89, 90, 91, 92, 93, 94, 95, 96, 97, 98, 99, 100, 101, 102, 103, 104, 105, 106, 107, 108, 109, 110, 111, 112, 113, 114, 115, 116, 117, 118] (by decide +kernel) (by decide +kernel)
set_option maxRecDepth 20000 in
theorem gX12_wrong_X12_wrongOf : GoodIn wsX12_wrong (wsV RX12 269 RX12 yX12_wrongOf wsX12_wrongOf) := goodIn_app (goodIn_of _ (by decide +kernel)) ggX12_wrong_X12_wrongOf
set_option maxRecDepth 20000 in
theorem ggX12_wrong_X12_fails : GoodIn wsX12_wrong wsX12_fails := goodIn_r _ [83, 1, 84, 85, 86, 87, 88, 89, 90, 91, 92, 93, 94, 95, 96, 97, 98, 99, 100, 101, 102, 103, 104, 105, 106, 107, 108, 109, 110, 111, 112, 113, 114, 115, 116, 117, 118] (by decide +kernel) (by decide +kernel)
set_option maxRecDepth 20000 in
theorem gX12_wrong_X12_fails : GoodIn wsX12_wrong (wsV RX12 95 RX12 yX12_fails wsX12_fails) := goodIn_app (goodIn_of _ (by decide +kernel)) ggX12_wrong_X12_fails
theorem dX12_wrong_0 : decode cX12_wrong 0 = .ok (.aload_n 0, 1) := by decide +kernel
theorem dX12_wrong_1 : decode cX12_wrong 1 = .ok (.iconst 0, 1) := by decide +kernel
theorem dX12_wrong_2 : decode cX12_wrong 2 = .ok (.putfield 80, 3) := by decide +kernel
theorem dX12_wrong_5 : decode cX12_wrong 5 = .ok (.aload_n 0, 1) := by decide +kernel
theorem dX12_wrong_6 : decode cX12_wrong 6 = .ok (.iload_n 1, 1) := by decide +kernel
theorem dX12_wrong_7 : decode cX12_wrong 7 = .ok (.invokevirtual 99, 3) := by decide +kernel
theorem dX12_wrong_10 : decode cX12_wrong 10 = .ok (.ifCond .eq 11, 3) := by decide +kernel
theorem dX12_wrong_13 : decode cX12_wrong 13 = .ok (.aload_n 0, 1) := by decide +kernel
theorem dX12_wrong_14 : decode cX12_wrong 14 = .ok (.iload_n 1, 1) := by decide +kernel
theorem dX12_wrong_15 : decode cX12_wrong 15 = .ok (.invokevirtual 269, 3) := by decide +kernel
theorem dX12_wrong_18 : decode cX12_wrong 18 = .ok (.goto 9, 3) := by decide +kernel
theorem dX12_wrong_21 : decode cX12_wrong 21 = .ok (.aload_n 0, 1) := by decide +kernel
theorem dX12_wrong_22 : decode cX12_wrong 22 = .ok (.iconst 1, 1) := by decide +kernel
theorem dX12_wrong_23 : decode cX12_wrong 23 = .ok (.invokevirtual 95, 3) := by decide +kernel
theorem dX12_wrong_26 : decode cX12_wrong 26 = .ok (.i2l, 1) := by decide +kernel
theorem dX12_wrong_27 : decode cX12_wrong 27 = .ok (.lreturn, 1) := by decide +kernel
theorem dX12_moves_0 : decode cX12_moves 0 = .ok (.aload_n 0, 1) := by decide +kernel
theorem dX12_moves_1 : decode cX12_moves 1 = .ok (.iload_n 1, 1) := by decide +kernel
theorem dX12_moves_2 : decode cX12_moves 2 = .ok (.putfield 30, 3) := by decide +kernel
theorem dX12_moves_5 : decode cX12_moves 5 = .ok (.aload_n 0, 1) := by decide +kernel
theorem dX12_moves_6 : decode cX12_moves 6 = .ok (.iconst 0, 1) := by decide +kernel
theorem dX12_moves_7 : decode cX12_moves 7 = .ok (.bipush 99, 2) := by decide +kernel
theorem dX12_moves_9 : decode cX12_moves 9 = .ok (.aload_n 0, 1) := by decide +kernel
theorem dX12_moves_10 : decode cX12_moves 10 = .ok (.getfield 9, 3) := by decide +kernel
theorem dX12_moves_13 : decode cX12_moves 13 = .ok (.bipush 103, 2) := by decide +kernel
theorem dX12_moves_15 : decode cX12_moves 15 = .ok (.bipush 7, 2) := by decide +kernel
theorem dX12_moves_17 : decode cX12_moves 17 = .ok (.iload_n 1, 1) := by decide +kernel
theorem dX12_moves_18 : decode cX12_moves 18 = .ok (.imul, 1) := by decide +kernel
theorem dX12_moves_19 : decode cX12_moves 19 = .ok (.iadd, 1) := by decide +kernel
theorem dX12_moves_20 : decode cX12_moves 20 = .ok (.iconst 1, 1) := by decide +kernel
theorem dX12_moves_21 : decode cX12_moves 21 = .ok (.iadd, 1) := by decide +kernel
theorem dX12_moves_22 : decode cX12_moves 22 = .ok (.iaload, 1) := by decide +kernel
theorem dX12_moves_23 : decode cX12_moves 23 = .ok (.iload_n 2, 1) := by decide +kernel
theorem dX12_moves_24 : decode cX12_moves 24 = .ok (.iadd, 1) := by decide +kernel
theorem dX12_moves_25 : decode cX12_moves 25 = .ok (.invokestatic 228, 3) := by decide +kernel
theorem dX12_moves_28 : decode cX12_moves 28 = .ok (.invokestatic 123, 3) := by decide +kernel
theorem dX12_moves_31 : decode cX12_moves 31 = .ok (.putfield 231, 3) := by decide +kernel
theorem dX12_moves_34 : decode cX12_moves 34 = .ok (.aload_n 0, 1) := by decide +kernel
theorem dX12_moves_35 : decode cX12_moves 35 = .ok (.iconst 0, 1) := by decide +kernel
theorem dX12_moves_36 : decode cX12_moves 36 = .ok (.bipush 99, 2) := by decide +kernel
theorem dX12_moves_38 : decode cX12_moves 38 = .ok (.aload_n 0, 1) := by decide +kernel
theorem dX12_moves_39 : decode cX12_moves 39 = .ok (.getfield 9, 3) := by decide +kernel
theorem dX12_moves_42 : decode cX12_moves 42 = .ok (.bipush 103, 2) := by decide +kernel
theorem dX12_moves_44 : decode cX12_moves 44 = .ok (.bipush 7, 2) := by decide +kernel
theorem dX12_moves_46 : decode cX12_moves 46 = .ok (.iload_n 1, 1) := by decide +kernel
theorem dX12_moves_47 : decode cX12_moves 47 = .ok (.imul, 1) := by decide +kernel
theorem dX12_moves_48 : decode cX12_moves 48 = .ok (.iadd, 1) := by decide +kernel
theorem dX12_moves_49 : decode cX12_moves 49 = .ok (.iconst 2, 1) := by decide +kernel
theorem dX12_moves_50 : decode cX12_moves 50 = .ok (.iadd, 1) := by decide +kernel
theorem dX12_moves_51 : decode cX12_moves 51 = .ok (.iaload, 1) := by decide +kernel
theorem dX12_moves_52 : decode cX12_moves 52 = .ok (.iload_n 3, 1) := by decide +kernel
theorem dX12_moves_53 : decode cX12_moves 53 = .ok (.iadd, 1) := by decide +kernel
theorem dX12_moves_54 : decode cX12_moves 54 = .ok (.invokestatic 228, 3) := by decide +kernel
theorem dX12_moves_57 : decode cX12_moves 57 = .ok (.invokestatic 123, 3) := by decide +kernel
theorem dX12_moves_60 : decode cX12_moves 60 = .ok (.putfield 234, 3) := by decide +kernel
theorem dX12_moves_63 : decode cX12_moves 63 = .ok (.return_, 1) := by decide +kernel
set_option maxRecDepth 20000 in
theorem ggX12_lossOf_X12_moves : GoodIn wsX12_lossOf wsX12_moves := goodIn_r _ [7, 2, 1, 8, 9, 10, 11, 12, 13, 14, 15, 16, 83, 84, 85, 86, 87, 88, 89, 90, 91, 92, 93, 94, 95, 96, 97, 98, 99, 100, 101, 102, 103, 104, 105, 106, 107, 108, 109, 110, 111, 112, 113, 114, 115, 116, 117] (by decide +kernel) (by decide +kernel)
set_option maxRecDepth 20000 in
theorem gX12_lossOf_X12_moves : GoodIn wsX12_lossOf (wsV RX12 272 RX12 yX12_moves wsX12_moves) := goodIn_app (goodIn_of _ (by decide +kernel)) ggX12_lossOf_X12_moves
set_option maxRecDepth 20000 in
theorem ggX12_lossOf_X12_of : GoodIn wsX12_lossOf wsX12_of := goodIn_r _ [20, 1, 83, 84, 85, 86, 87, 88, 89, 90, 91, 92, 93, 94, 95, 96, 97, 98, 99, 100, 101, 102, 103, 104, 105, 106, 107, 108, 109, 110, 111, 112, 113, 114, 115, 116, 117] (by decide +kernel) (by decide +kernel)
set_option maxRecDepth 20000 in
theorem gX12_lossOf_X12_of : GoodIn wsX12_lossOf (wsV RX12 117 RX12 yX12_of wsX12_of) := goodIn_app (goodIn_of _ (by decide +kernel)) ggX12_lossOf_X12_of
set_option maxRecDepth 20000 in
theorem ggX12_lossOf_X12_wrongOf : GoodIn wsX12_lossOf wsX12_wrongOf := goodIn_r _ [24, 25, 1, 12, 13, 10, 14, 26, 27, 28, 29, 6, 30, 31, 32, 33, 34, 35, 17, 18, 19, 20, 36, 37, 38, 39, 8, 9, 11, 40, 41, 42, 43, 44, 45, 46, 47, 48, 49, 50, 51, 2, 15, 52, 53, 54, 55, 16, 56, 57, 58, 59, 60, 61, 62, 63, 64, 65, 66, 67, 68, 69, 70, 71, 72, 73, 74, 75, 76, 77, 78, 79, 80, 81, 82, 83, 84, 85, 86, 87, 88, 89, 90, 91, 92, 93, 94, 95, 96, 97, 98, 99, 100, 101, 102, 103, 104, 105, 106, 107, 108, 109, 110, 111, 112, 113, 114, 115, 116, 117] (by decide +kernel) (by decide +kernel)
set_option maxRecDepth 20000 in
theorem gX12_lossOf_X12_wrongOf : GoodIn wsX12_lossOf (wsV RX12 269 RX12 yX12_wrongOf wsX12_wrongOf) := goodIn_app (goodIn_of _ (by decide +kernel)) ggX12_lossOf_X12_wrongOf
theorem dX12_lossOf_0 : decode cX12_lossOf 0 = .ok (.aload_n 0, 1) := by decide +kernel
theorem dX12_lossOf_1 : decode cX12_lossOf 1 = .ok (.iload_n 1, 1) := by decide +kernel
theorem dX12_lossOf_2 : decode cX12_lossOf 2 = .ok (.iload_n 2, 1) := by decide +kernel
theorem dX12_lossOf_3 : decode cX12_lossOf 3 = .ok (.iload_n 3, 1) := by decide +kernel
theorem dX12_lossOf_4 : decode cX12_lossOf 4 = .ok (.invokevirtual 272, 3) := by decide +kernel
theorem dX12_lossOf_7 : decode cX12_lossOf 7 = .ok (.lconst 0, 1) := by decide +kernel
theorem dX12_lossOf_8 : decode cX12_lossOf 8 = .ok (.lstore 4, 2) := by decide +kernel
theorem dX12_lossOf_10 : decode cX12_lossOf 10 = .ok (.iconst 0, 1) := by decide +kernel
theorem dX12_lossOf_11 : decode cX12_lossOf 11 = .ok (.istore 6, 2) := by decide +kernel
theorem dX12_lossOf_13 : decode cX12_lossOf 13 = .ok (.iload 6, 2) := by decide +kernel
theorem dX12_lossOf_15 : decode cX12_lossOf 15 = .ok (.aload_n 0, 1) := by decide +kernel
theorem dX12_lossOf_16 : decode cX12_lossOf 16 = .ok (.getfield 9, 3) := by decide +kernel
theorem dX12_lossOf_19 : decode cX12_lossOf 19 = .ok (.iconst 0, 1) := by decide +kernel
theorem dX12_lossOf_20 : decode cX12_lossOf 20 = .ok (.iaload, 1) := by decide +kernel
theorem dX12_lossOf_21 : decode cX12_lossOf 21 = .ok (.if_icmp .ge 41, 3) := by decide +kernel
theorem dX12_lossOf_24 : decode cX12_lossOf 24 = .ok (.aload_n 0, 1) := by decide +kernel
theorem dX12_lossOf_25 : decode cX12_lossOf 25 = .ok (.iload 6, 2) := by decide +kernel
theorem dX12_lossOf_27 : decode cX12_lossOf 27 = .ok (.bipush 10, 2) := by decide +kernel
theorem dX12_lossOf_29 : decode cX12_lossOf 29 = .ok (.invokevirtual 117, 3) := by decide +kernel
theorem dX12_lossOf_32 : decode cX12_lossOf 32 = .ok (.ifCond .le 24, 3) := by decide +kernel
theorem dX12_lossOf_35 : decode cX12_lossOf 35 = .ok (.lload 4, 2) := by decide +kernel
theorem dX12_lossOf_37 : decode cX12_lossOf 37 = .ok (.aload_n 0, 1) := by decide +kernel
theorem dX12_lossOf_38 : decode cX12_lossOf 38 = .ok (.iload 6, 2) := by decide +kernel
theorem dX12_lossOf_40 : decode cX12_lossOf 40 = .ok (.bipush 10, 2) := by decide +kernel
theorem dX12_lossOf_42 : decode cX12_lossOf 42 = .ok (.invokevirtual 117, 3) := by decide +kernel
theorem dX12_lossOf_45 : decode cX12_lossOf 45 = .ok (.i2l, 1) := by decide +kernel
theorem dX12_lossOf_46 : decode cX12_lossOf 46 = .ok (.aload_n 0, 1) := by decide +kernel
theorem dX12_lossOf_47 : decode cX12_lossOf 47 = .ok (.iload 6, 2) := by decide +kernel
theorem dX12_lossOf_49 : decode cX12_lossOf 49 = .ok (.invokevirtual 269, 3) := by decide +kernel
theorem dX12_lossOf_52 : decode cX12_lossOf 52 = .ok (.lmul, 1) := by decide +kernel
theorem dX12_lossOf_53 : decode cX12_lossOf 53 = .ok (.ladd, 1) := by decide +kernel
theorem dX12_lossOf_54 : decode cX12_lossOf 54 = .ok (.lstore 4, 2) := by decide +kernel
theorem dX12_lossOf_56 : decode cX12_lossOf 56 = .ok (.iinc 6 1, 3) := by decide +kernel
theorem dX12_lossOf_59 : decode cX12_lossOf 59 = .ok (.goto (-46), 3) := by decide +kernel
theorem dX12_lossOf_62 : decode cX12_lossOf 62 = .ok (.aload_n 0, 1) := by decide +kernel
theorem dX12_lossOf_63 : decode cX12_lossOf 63 = .ok (.iconst (-1), 1) := by decide +kernel
theorem dX12_lossOf_64 : decode cX12_lossOf 64 = .ok (.putfield 30, 3) := by decide +kernel
theorem dX12_lossOf_67 : decode cX12_lossOf 67 = .ok (.lload 4, 2) := by decide +kernel
theorem dX12_lossOf_69 : decode cX12_lossOf 69 = .ok (.lreturn, 1) := by decide +kernel
set_option maxRecDepth 20000 in
theorem ggX12_moveFault_X12_isGate : GoodIn wsX12_moveFault wsX12_isGate := goodIn_r _ [7, 8, 9, 10, 6, 11, 12, 13, 14, 15, 16, 17, 18, 19, 20, 21, 22, 23, 24, 25, 26, 27, 28, 29, 30, 31, 32, 33, 34, 35, 36, 37, 38, 39, 40, 41, 42, 43, 44, 45, 46, 47, 48, 49, 50] (by decide +kernel) (by decide +kernel)
set_option maxRecDepth 20000 in
theorem gX12_moveFault_X12_isGate : GoodIn wsX12_moveFault (wsV RX12 225 RX12 yX12_isGate wsX12_isGate) := goodIn_app (goodIn_of _ (by decide +kernel)) ggX12_moveFault_X12_isGate
set_option maxRecDepth 20000 in
theorem ggX12_moveFault_X12_within : GoodIn wsX12_moveFault wsX12_within := goodIn_r _ [15] (by decide +kernel) (by decide +kernel)
set_option maxRecDepth 20000 in
theorem gX12_moveFault_X12_within : GoodIn wsX12_moveFault (va_wsS RX12 83 yX12_within wsX12_within) := goodIn_app (goodIn_of _ (by decide +kernel)) ggX12_moveFault_X12_within
theorem dX12_moveFault_0 : decode cX12_moveFault 0 = .ok (.aload_n 0, 1) := by decide +kernel
theorem dX12_moveFault_1 : decode cX12_moveFault 1 = .ok (.iload_n 1, 1) := by decide +kernel
theorem dX12_moveFault_2 : decode cX12_moveFault 2 = .ok (.invokevirtual 225, 3) := by decide +kernel
theorem dX12_moveFault_5 : decode cX12_moveFault 5 = .ok (.ifCond .ne 7, 3) := by decide +kernel
theorem dX12_moveFault_8 : decode cX12_moveFault 8 = .ok (.iconst 1, 1) := by decide +kernel
theorem dX12_moveFault_9 : decode cX12_moveFault 9 = .ok (.goto 36, 3) := by decide +kernel
theorem dX12_moveFault_12 : decode cX12_moveFault 12 = .ok (.iload_n 2, 1) := by decide +kernel
theorem dX12_moveFault_13 : decode cX12_moveFault 13 = .ok (.i2l, 1) := by decide +kernel
theorem dX12_moveFault_14 : decode cX12_moveFault 14 = .ok (.ldc2_w 276, 3) := by decide +kernel
theorem dX12_moveFault_17 : decode cX12_moveFault 17 = .ok (.ldc2_w 105, 3) := by decide +kernel
theorem dX12_moveFault_20 : decode cX12_moveFault 20 = .ok (.invokestatic 83, 3) := by decide +kernel
theorem dX12_moveFault_23 : decode cX12_moveFault 23 = .ok (.ifCond .eq 21, 3) := by decide +kernel
theorem dX12_moveFault_26 : decode cX12_moveFault 26 = .ok (.iload_n 3, 1) := by decide +kernel
theorem dX12_moveFault_27 : decode cX12_moveFault 27 = .ok (.i2l, 1) := by decide +kernel
theorem dX12_moveFault_28 : decode cX12_moveFault 28 = .ok (.ldc2_w 276, 3) := by decide +kernel
theorem dX12_moveFault_31 : decode cX12_moveFault 31 = .ok (.ldc2_w 105, 3) := by decide +kernel
theorem dX12_moveFault_34 : decode cX12_moveFault 34 = .ok (.invokestatic 83, 3) := by decide +kernel
theorem dX12_moveFault_37 : decode cX12_moveFault 37 = .ok (.ifCond .eq 7, 3) := by decide +kernel
theorem dX12_moveFault_40 : decode cX12_moveFault 40 = .ok (.iconst 0, 1) := by decide +kernel
theorem dX12_moveFault_41 : decode cX12_moveFault 41 = .ok (.goto 4, 3) := by decide +kernel
theorem dX12_moveFault_44 : decode cX12_moveFault 44 = .ok (.iconst 2, 1) := by decide +kernel
theorem dX12_moveFault_45 : decode cX12_moveFault 45 = .ok (.ireturn, 1) := by decide +kernel
set_option maxRecDepth 20000 in
theorem ggX12_loss_X12_moveFault : GoodIn wsX12_loss wsX12_moveFault := goodIn_r _ [6, 7, 8, 9, 10, 11, 5, 12, 13, 14, 15, 16, 17, 18, 19, 20, 98, 99, 100, 101, 102, 103, 104, 105, 106, 107, 108, 109, 110, 111, 112, 113, 114, 115, 116, 117, 118, 119, 120, 121, 122, 123, 124, 125, 126, 127, 128, 129, 130, 131, 132] (by decide +kernel) (by decide +kernel)
set_option maxRecDepth 20000 in
theorem gX12_loss_X12_moveFault : GoodIn wsX12_loss (wsV RX12 278 RX12 yX12_moveFault wsX12_moveFault) := goodIn_app (goodIn_of _ (by decide +kernel)) ggX12_loss_X12_moveFault
set_option maxRecDepth 20000 in
theorem ggX12_loss_X12_lossOf : GoodIn wsX12_loss wsX12_lossOf := goodIn_r _ [24, 17, 25, 26, 27, 28, 5, 29, 30, 31, 32, 33, 34, 35, 36, 37, 38, 39, 40, 41, 42, 43, 44, 45, 46, 47, 48, 49, 50, 51, 52, 53, 54, 55, 56, 57, 58, 59, 60, 61, 62, 63, 64, 65, 66, 67, 68, 69, 70, 71, 72, 73, 74, 75, 76, 77, 78, 79, 80, 81, 82, 83, 84, 85, 86, 87, 88, 89, 13, 14, 15, 16, 18, 19, 20, 90, 91, 92, 93, 94, 95, 96, 97, 98, 99, 100, 101, 102, 103, 104, 105, 106, 107, 108, 109, 110, 111, 112, 113, 114, 115, 116, 117, 118, 119, 120, 121, 122, 123, 124, 125, 126, 127, 128, 129, 130, 131, 132] (by decide +kernel) (by decide +kernel)
set_option maxRecDepth 20000 in
theorem gX12_loss_X12_lossOf : GoodIn wsX12_loss (wsV RX12 281 RX12 yX12_lossOf wsX12_lossOf) := goodIn_app (goodIn_of _ (by decide +kernel)) ggX12_loss_X12_lossOf
theorem dX12_loss_0 : decode cX12_loss 0 = .ok (.aload_n 0, 1) := by decide +kernel
theorem dX12_loss_1 : decode cX12_loss 1 = .ok (.aload_n 0, 1) := by decide +kernel
theorem dX12_loss_2 : decode cX12_loss 2 = .ok (.iload_n 1, 1) := by decide +kernel
theorem dX12_loss_3 : decode cX12_loss 3 = .ok (.iload_n 2, 1) := by decide +kernel
theorem dX12_loss_4 : decode cX12_loss 4 = .ok (.iload_n 3, 1) := by decide +kernel
theorem dX12_loss_5 : decode cX12_loss 5 = .ok (.invokevirtual 278, 3) := by decide +kernel
theorem dX12_loss_8 : decode cX12_loss 8 = .ok (.putfield 80, 3) := by decide +kernel
theorem dX12_loss_11 : decode cX12_loss 11 = .ok (.aload_n 0, 1) := by decide +kernel
theorem dX12_loss_12 : decode cX12_loss 12 = .ok (.getfield 80, 3) := by decide +kernel
theorem dX12_loss_15 : decode cX12_loss 15 = .ok (.ifCond .le 7, 3) := by decide +kernel
theorem dX12_loss_18 : decode cX12_loss 18 = .ok (.lconst 0, 1) := by decide +kernel
theorem dX12_loss_19 : decode cX12_loss 19 = .ok (.goto 10, 3) := by decide +kernel
theorem dX12_loss_22 : decode cX12_loss 22 = .ok (.aload_n 0, 1) := by decide +kernel
theorem dX12_loss_23 : decode cX12_loss 23 = .ok (.iload_n 1, 1) := by decide +kernel
theorem dX12_loss_24 : decode cX12_loss 24 = .ok (.iload_n 2, 1) := by decide +kernel
theorem dX12_loss_25 : decode cX12_loss 25 = .ok (.iload_n 3, 1) := by decide +kernel
theorem dX12_loss_26 : decode cX12_loss 26 = .ok (.invokevirtual 281, 3) := by decide +kernel
theorem dX12_loss_29 : decode cX12_loss 29 = .ok (.lreturn, 1) := by decide +kernel
set_option maxRecDepth 20000 in
theorem ggX12_best_X12_isGate : GoodIn wsX12_best wsX12_isGate := goodIn_r _ [11, 12, 13, 14, 10, 15, 16, 17, 18, 19, 96, 97, 98, 99, 100, 101, 102, 103, 104, 105, 106, 107, 108, 109, 110, 111, 112, 113, 114, 115, 116, 117, 118, 119, 120, 121, 122, 123, 124, 125, 126, 127, 128, 129, 130] (by decide +kernel) (by decide +kernel)
set_option maxRecDepth 20000 in
theorem gX12_best_X12_isGate : GoodIn wsX12_best (wsV RX12 225 RX12 yX12_isGate wsX12_isGate) := goodIn_app (goodIn_of _ (by decide +kernel)) ggX12_best_X12_isGate
set_option maxRecDepth 20000 in
theorem ggX12_best_X12_within : GoodIn wsX12_best wsX12_within := goodIn_r _ [19] (by decide +kernel) (by decide +kernel)
set_option maxRecDepth 20000 in
theorem gX12_best_X12_within : GoodIn wsX12_best (va_wsS RX12 83 yX12_within wsX12_within) := goodIn_app (goodIn_of _ (by decide +kernel)) ggX12_best_X12_within
set_option maxRecDepth 20000 in
theorem ggX12_best_X12_lossOf : GoodIn wsX12_best wsX12_lossOf := goodIn_r _ [23, 16, 24, 25, 26, 27, 10, 28, 29, 30, 5, 31, 32, 33, 34, 35, 36, 37, 38, 39, 40, 41, 42, 43, 44, 45, 46, 47, 48, 49, 50, 51, 52, 53, 54, 55, 56, 57, 58, 59, 60, 61, 62, 63, 64, 65, 66, 67, 68, 69, 70, 71, 72, 73, 74, 75, 76, 77, 78, 79, 80, 81, 82, 83, 84, 85, 86, 87, 12, 13, 14, 15, 17, 18, 19, 88, 89, 90, 91, 92, 93, 94, 95, 96, 97, 98, 99, 100, 101, 102, 103, 104, 105, 106, 107, 108, 109, 110, 111, 112, 113, 114, 115, 116, 117, 118, 119, 120, 121, 122, 123, 124, 125, 126, 127, 128, 129, 130] (by decide +kernel) (by decide +kernel)
set_option maxRecDepth 20000 in
theorem gX12_best_X12_lossOf : GoodIn wsX12_best (wsV RX12 281 RX12 yX12_lossOf wsX12_lossOf) := goodIn_app (goodIn_of _ (by decide +kernel)) ggX12_best_X12_lossOf
theorem dX12_best_0 : decode cX12_best 0 = .ok (.aload_n 0, 1) := by decide +kernel
theorem dX12_best_1 : decode cX12_best 1 = .ok (.aload_n 0, 1) := by decide +kernel
theorem dX12_best_2 : decode cX12_best 2 = .ok (.iload_n 1, 1) := by decide +kernel
theorem dX12_best_3 : decode cX12_best 3 = .ok (.invokevirtual 225, 3) := by decide +kernel
theorem dX12_best_6 : decode cX12_best 6 = .ok (.ifCond .ne 7, 3) := by decide +kernel
theorem dX12_best_9 : decode cX12_best 9 = .ok (.iconst 1, 1) := by decide +kernel
theorem dX12_best_10 : decode cX12_best 10 = .ok (.goto 20, 3) := by decide +kernel
theorem dX12_best_13 : decode cX12_best 13 = .ok (.iload_n 2, 1) := by decide +kernel
theorem dX12_best_14 : decode cX12_best 14 = .ok (.i2l, 1) := by decide +kernel
theorem dX12_best_15 : decode cX12_best 15 = .ok (.lconst 0, 1) := by decide +kernel
theorem dX12_best_16 : decode cX12_best 16 = .ok (.ldc2_w 103, 3) := by decide +kernel
theorem dX12_best_19 : decode cX12_best 19 = .ok (.invokestatic 83, 3) := by decide +kernel
theorem dX12_best_22 : decode cX12_best 22 = .ok (.ifCond .eq 7, 3) := by decide +kernel
theorem dX12_best_25 : decode cX12_best 25 = .ok (.iconst 0, 1) := by decide +kernel
theorem dX12_best_26 : decode cX12_best 26 = .ok (.goto 4, 3) := by decide +kernel
theorem dX12_best_29 : decode cX12_best 29 = .ok (.iconst 2, 1) := by decide +kernel
theorem dX12_best_30 : decode cX12_best 30 = .ok (.putfield 80, 3) := by decide +kernel
theorem dX12_best_33 : decode cX12_best 33 = .ok (.aload_n 0, 1) := by decide +kernel
theorem dX12_best_34 : decode cX12_best 34 = .ok (.getfield 80, 3) := by decide +kernel
theorem dX12_best_37 : decode cX12_best 37 = .ok (.ifCond .le 5, 3) := by decide +kernel
theorem dX12_best_40 : decode cX12_best 40 = .ok (.lconst 0, 1) := by decide +kernel
theorem dX12_best_41 : decode cX12_best 41 = .ok (.lreturn, 1) := by decide +kernel
theorem dX12_best_42 : decode cX12_best 42 = .ok (.lconst 0, 1) := by decide +kernel
theorem dX12_best_43 : decode cX12_best 43 = .ok (.lstore_n 3, 1) := by decide +kernel
theorem dX12_best_44 : decode cX12_best 44 = .ok (.iconst 0, 1) := by decide +kernel
theorem dX12_best_45 : decode cX12_best 45 = .ok (.istore 5, 2) := by decide +kernel
theorem dX12_best_47 : decode cX12_best 47 = .ok (.iconst 0, 1) := by decide +kernel
theorem dX12_best_48 : decode cX12_best 48 = .ok (.istore 6, 2) := by decide +kernel
theorem dX12_best_50 : decode cX12_best 50 = .ok (.iconst 0, 1) := by decide +kernel
theorem dX12_best_51 : decode cX12_best 51 = .ok (.istore 7, 2) := by decide +kernel
theorem dX12_best_53 : decode cX12_best 53 = .ok (.iconst 0, 1) := by decide +kernel
theorem dX12_best_54 : decode cX12_best 54 = .ok (.istore 8, 2) := by decide +kernel
theorem dX12_best_56 : decode cX12_best 56 = .ok (.iload 8, 2) := by decide +kernel
theorem dX12_best_58 : decode cX12_best 58 = .ok (.bipush 8, 2) := by decide +kernel
theorem dX12_best_60 : decode cX12_best 60 = .ok (.if_icmp .gt 100, 3) := by decide +kernel
theorem dX12_best_63 : decode cX12_best 63 = .ok (.bipush (-4), 2) := by decide +kernel
theorem dX12_best_65 : decode cX12_best 65 = .ok (.istore 9, 2) := by decide +kernel
theorem dX12_best_67 : decode cX12_best 67 = .ok (.iload 9, 2) := by decide +kernel
theorem dX12_best_69 : decode cX12_best 69 = .ok (.iconst 4, 1) := by decide +kernel
theorem dX12_best_70 : decode cX12_best 70 = .ok (.if_icmp .gt 84, 3) := by decide +kernel
theorem dX12_best_73 : decode cX12_best 73 = .ok (.bipush (-4), 2) := by decide +kernel
theorem dX12_best_75 : decode cX12_best 75 = .ok (.istore 10, 2) := by decide +kernel
theorem dX12_best_77 : decode cX12_best 77 = .ok (.iload 10, 2) := by decide +kernel
theorem dX12_best_79 : decode cX12_best 79 = .ok (.iconst 4, 1) := by decide +kernel
theorem dX12_best_80 : decode cX12_best 80 = .ok (.if_icmp .gt 68, 3) := by decide +kernel
theorem dX12_best_83 : decode cX12_best 83 = .ok (.iload 9, 2) := by decide +kernel
theorem dX12_best_85 : decode cX12_best 85 = .ok (.invokestatic 285, 3) := by decide +kernel
theorem dX12_best_88 : decode cX12_best 88 = .ok (.iload 10, 2) := by decide +kernel
theorem dX12_best_90 : decode cX12_best 90 = .ok (.invokestatic 285, 3) := by decide +kernel
theorem dX12_best_93 : decode cX12_best 93 = .ok (.iadd, 1) := by decide +kernel
theorem dX12_best_94 : decode cX12_best 94 = .ok (.iload 8, 2) := by decide +kernel
theorem dX12_best_96 : decode cX12_best 96 = .ok (.if_icmp .eq 6, 3) := by decide +kernel
theorem dX12_best_99 : decode cX12_best 99 = .ok (.goto 43, 3) := by decide +kernel
theorem dX12_best_102 : decode cX12_best 102 = .ok (.aload_n 0, 1) := by decide +kernel
theorem dX12_best_103 : decode cX12_best 103 = .ok (.iload_n 1, 1) := by decide +kernel
theorem dX12_best_104 : decode cX12_best 104 = .ok (.iload 9, 2) := by decide +kernel
theorem dX12_best_106 : decode cX12_best 106 = .ok (.iload 10, 2) := by decide +kernel
theorem dX12_best_108 : decode cX12_best 108 = .ok (.invokevirtual 281, 3) := by decide +kernel
theorem dX12_best_111 : decode cX12_best 111 = .ok (.lstore 11, 2) := by decide +kernel
theorem dX12_best_113 : decode cX12_best 113 = .ok (.iload 7, 2) := by decide +kernel
theorem dX12_best_115 : decode cX12_best 115 = .ok (.ifCond .eq 13, 3) := by decide +kernel
theorem dX12_best_118 : decode cX12_best 118 = .ok (.lload 11, 2) := by decide +kernel
theorem dX12_best_120 : decode cX12_best 120 = .ok (.lload_n 3, 1) := by decide +kernel
theorem dX12_best_121 : decode cX12_best 121 = .ok (.lcmp, 1) := by decide +kernel
theorem dX12_best_122 : decode cX12_best 122 = .ok (.ifCond .lt 6, 3) := by decide +kernel
theorem dX12_best_125 : decode cX12_best 125 = .ok (.goto 17, 3) := by decide +kernel
theorem dX12_best_128 : decode cX12_best 128 = .ok (.iconst 1, 1) := by decide +kernel
theorem dX12_best_129 : decode cX12_best 129 = .ok (.istore 7, 2) := by decide +kernel
theorem dX12_best_131 : decode cX12_best 131 = .ok (.lload 11, 2) := by decide +kernel
theorem dX12_best_133 : decode cX12_best 133 = .ok (.lstore_n 3, 1) := by decide +kernel
theorem dX12_best_134 : decode cX12_best 134 = .ok (.iload 9, 2) := by decide +kernel
theorem dX12_best_136 : decode cX12_best 136 = .ok (.istore 5, 2) := by decide +kernel
theorem dX12_best_138 : decode cX12_best 138 = .ok (.iload 10, 2) := by decide +kernel
theorem dX12_best_140 : decode cX12_best 140 = .ok (.istore 6, 2) := by decide +kernel
theorem dX12_best_142 : decode cX12_best 142 = .ok (.iinc 10 1, 3) := by decide +kernel
theorem dX12_best_145 : decode cX12_best 145 = .ok (.goto (-68), 3) := by decide +kernel
theorem dX12_best_148 : decode cX12_best 148 = .ok (.iinc 9 1, 3) := by decide +kernel
theorem dX12_best_151 : decode cX12_best 151 = .ok (.goto (-84), 3) := by decide +kernel
theorem dX12_best_154 : decode cX12_best 154 = .ok (.iinc 8 1, 3) := by decide +kernel
theorem dX12_best_157 : decode cX12_best 157 = .ok (.goto (-101), 3) := by decide +kernel
theorem dX12_best_160 : decode cX12_best 160 = .ok (.iload_n 2, 1) := by decide +kernel
theorem dX12_best_161 : decode cX12_best 161 = .ok (.ifCond .ne 9, 3) := by decide +kernel
theorem dX12_best_164 : decode cX12_best 164 = .ok (.iload 5, 2) := by decide +kernel
theorem dX12_best_166 : decode cX12_best 166 = .ok (.i2l, 1) := by decide +kernel
theorem dX12_best_167 : decode cX12_best 167 = .ok (.goto 15, 3) := by decide +kernel
theorem dX12_best_170 : decode cX12_best 170 = .ok (.iload_n 2, 1) := by decide +kernel
theorem dX12_best_171 : decode cX12_best 171 = .ok (.iconst 1, 1) := by decide +kernel
theorem dX12_best_172 : decode cX12_best 172 = .ok (.if_icmp .ne 9, 3) := by decide +kernel
theorem dX12_best_175 : decode cX12_best 175 = .ok (.iload 6, 2) := by decide +kernel
theorem dX12_best_177 : decode cX12_best 177 = .ok (.i2l, 1) := by decide +kernel
theorem dX12_best_178 : decode cX12_best 178 = .ok (.goto 4, 3) := by decide +kernel
theorem dX12_best_181 : decode cX12_best 181 = .ok (.lload_n 3, 1) := by decide +kernel
theorem dX12_best_182 : decode cX12_best 182 = .ok (.lreturn, 1) := by decide +kernel
set_option maxRecDepth 20000 in
theorem ggX12_move_X12_moveFault : GoodIn wsX12_move wsX12_moveFault := goodIn_r _ [10, 11, 12, 13, 14, 15, 9, 16, 17, 18, 19, 20, 5, 21, 22, 23, 35, 36, 37, 38, 39, 40, 41, 42, 43, 44, 45, 46, 47, 48, 49, 50, 51, 52, 53, 54, 55, 56, 57, 58, 59, 60, 61, 62, 63, 64, 65, 66, 67, 68, 69] (by decide +kernel) (by decide +kernel)
set_option maxRecDepth 20000 in
theorem gX12_move_X12_moveFault : GoodIn wsX12_move (wsV RX12 278 RX12 yX12_moveFault wsX12_moveFault) := goodIn_app (goodIn_of _ (by decide +kernel)) ggX12_move_X12_moveFault
set_option maxRecDepth 20000 in
theorem ggX12_move_X12_moves : GoodIn wsX12_move wsX12_moves := goodIn_r _ [27, 2, 5, 28, 29, 30, 31, 32, 33, 34, 3, 4, 35, 36, 37, 38, 39, 40, 41, 42, 43, 44, 45, 46, 47, 48, 49, 50, 51, 52, 53, 54, 55, 56, 57, 58, 59, 60, 61, 62, 63, 64, 65, 66, 67, 68, 69] (by decide +kernel) (by decide +kernel)
set_option maxRecDepth 20000 in
theorem gX12_move_X12_moves : GoodIn wsX12_move (wsV RX12 272 RX12 yX12_moves wsX12_moves) := goodIn_app (goodIn_of _ (by decide +kernel)) ggX12_move_X12_moves
theorem dX12_move_0 : decode cX12_move 0 = .ok (.aload_n 0, 1) := by decide +kernel
theorem dX12_move_1 : decode cX12_move 1 = .ok (.aload_n 0, 1) := by decide +kernel
theorem dX12_move_2 : decode cX12_move 2 = .ok (.iload_n 1, 1) := by decide +kernel
theorem dX12_move_3 : decode cX12_move 3 = .ok (.iload_n 2, 1) := by decide +kernel
theorem dX12_move_4 : decode cX12_move 4 = .ok (.iload_n 3, 1) := by decide +kernel
theorem dX12_move_5 : decode cX12_move 5 = .ok (.invokevirtual 278, 3) := by decide +kernel
theorem dX12_move_8 : decode cX12_move 8 = .ok (.putfield 80, 3) := by decide +kernel
theorem dX12_move_11 : decode cX12_move 11 = .ok (.aload_n 0, 1) := by decide +kernel
theorem dX12_move_12 : decode cX12_move 12 = .ok (.getfield 80, 3) := by decide +kernel
theorem dX12_move_15 : decode cX12_move 15 = .ok (.ifCond .le 5, 3) := by decide +kernel
theorem dX12_move_18 : decode cX12_move 18 = .ok (.iconst 0, 1) := by decide +kernel
theorem dX12_move_19 : decode cX12_move 19 = .ok (.ireturn, 1) := by decide +kernel
theorem dX12_move_20 : decode cX12_move 20 = .ok (.aload_n 0, 1) := by decide +kernel
theorem dX12_move_21 : decode cX12_move 21 = .ok (.iload_n 1, 1) := by decide +kernel
theorem dX12_move_22 : decode cX12_move 22 = .ok (.iload_n 2, 1) := by decide +kernel
theorem dX12_move_23 : decode cX12_move 23 = .ok (.iload_n 3, 1) := by decide +kernel
theorem dX12_move_24 : decode cX12_move 24 = .ok (.invokevirtual 272, 3) := by decide +kernel
theorem dX12_move_27 : decode cX12_move 27 = .ok (.aload_n 0, 1) := by decide +kernel
theorem dX12_move_28 : decode cX12_move 28 = .ok (.iconst (-1), 1) := by decide +kernel
theorem dX12_move_29 : decode cX12_move 29 = .ok (.putfield 30, 3) := by decide +kernel
theorem dX12_move_32 : decode cX12_move 32 = .ok (.aload_n 0, 1) := by decide +kernel
theorem dX12_move_33 : decode cX12_move 33 = .ok (.getfield 231, 3) := by decide +kernel
theorem dX12_move_36 : decode cX12_move 36 = .ok (.aload_n 0, 1) := by decide +kernel
theorem dX12_move_37 : decode cX12_move 37 = .ok (.getfield 234, 3) := by decide +kernel
theorem dX12_move_40 : decode cX12_move 40 = .ok (.if_icmp .le 5, 3) := by decide +kernel
theorem dX12_move_43 : decode cX12_move 43 = .ok (.iconst 0, 1) := by decide +kernel
theorem dX12_move_44 : decode cX12_move 44 = .ok (.ireturn, 1) := by decide +kernel
theorem dX12_move_45 : decode cX12_move 45 = .ok (.aload_n 0, 1) := by decide +kernel
theorem dX12_move_46 : decode cX12_move 46 = .ok (.getfield 9, 3) := by decide +kernel
theorem dX12_move_49 : decode cX12_move 49 = .ok (.bipush 103, 2) := by decide +kernel
theorem dX12_move_51 : decode cX12_move 51 = .ok (.bipush 7, 2) := by decide +kernel
theorem dX12_move_53 : decode cX12_move 53 = .ok (.iload_n 1, 1) := by decide +kernel
theorem dX12_move_54 : decode cX12_move 54 = .ok (.imul, 1) := by decide +kernel
theorem dX12_move_55 : decode cX12_move 55 = .ok (.iadd, 1) := by decide +kernel
theorem dX12_move_56 : decode cX12_move 56 = .ok (.iconst 1, 1) := by decide +kernel
theorem dX12_move_57 : decode cX12_move 57 = .ok (.iadd, 1) := by decide +kernel
theorem dX12_move_58 : decode cX12_move 58 = .ok (.aload_n 0, 1) := by decide +kernel
theorem dX12_move_59 : decode cX12_move 59 = .ok (.getfield 231, 3) := by decide +kernel
theorem dX12_move_62 : decode cX12_move 62 = .ok (.iastore, 1) := by decide +kernel
theorem dX12_move_63 : decode cX12_move 63 = .ok (.aload_n 0, 1) := by decide +kernel
theorem dX12_move_64 : decode cX12_move 64 = .ok (.getfield 9, 3) := by decide +kernel
theorem dX12_move_67 : decode cX12_move 67 = .ok (.bipush 103, 2) := by decide +kernel
theorem dX12_move_69 : decode cX12_move 69 = .ok (.bipush 7, 2) := by decide +kernel
theorem dX12_move_71 : decode cX12_move 71 = .ok (.iload_n 1, 1) := by decide +kernel
theorem dX12_move_72 : decode cX12_move 72 = .ok (.imul, 1) := by decide +kernel
theorem dX12_move_73 : decode cX12_move 73 = .ok (.iadd, 1) := by decide +kernel
theorem dX12_move_74 : decode cX12_move 74 = .ok (.iconst 2, 1) := by decide +kernel
theorem dX12_move_75 : decode cX12_move 75 = .ok (.iadd, 1) := by decide +kernel
theorem dX12_move_76 : decode cX12_move 76 = .ok (.aload_n 0, 1) := by decide +kernel
theorem dX12_move_77 : decode cX12_move 77 = .ok (.getfield 234, 3) := by decide +kernel
theorem dX12_move_80 : decode cX12_move 80 = .ok (.iastore, 1) := by decide +kernel
theorem dX12_move_81 : decode cX12_move 81 = .ok (.iconst 1, 1) := by decide +kernel
theorem dX12_move_82 : decode cX12_move 82 = .ok (.ireturn, 1) := by decide +kernel
set_option maxRecDepth 20000 in
theorem ggX12_offer_X12_within : GoodIn wsX12_offer wsX12_within := goodIn_r _ [7] (by decide +kernel) (by decide +kernel)
set_option maxRecDepth 20000 in
theorem gX12_offer_X12_within : GoodIn wsX12_offer (va_wsS RX12 83 yX12_within wsX12_within) := goodIn_app (goodIn_of _ (by decide +kernel)) ggX12_offer_X12_within
set_option maxRecDepth 20000 in
theorem ggX12_offer_X12_fails : GoodIn wsX12_offer wsX12_fails := goodIn_r _ [11, 1, 12, 13, 14, 15, 16, 17, 18, 19, 20, 21, 22, 23, 24, 25, 26, 27, 28, 29, 30, 31, 32, 33, 34, 35, 36, 37, 38, 39, 40, 41, 42, 43, 44, 45, 46] (by decide +kernel) (by decide +kernel)
set_option maxRecDepth 20000 in
theorem gX12_offer_X12_fails : GoodIn wsX12_offer (wsV RX12 95 RX12 yX12_fails wsX12_fails) := goodIn_app (goodIn_of _ (by decide +kernel)) ggX12_offer_X12_fails
theorem dX12_offer_0 : decode cX12_offer 0 = .ok (.aload_n 0, 1) := by decide +kernel
theorem dX12_offer_1 : decode cX12_offer 1 = .ok (.iconst 0, 1) := by decide +kernel
theorem dX12_offer_2 : decode cX12_offer 2 = .ok (.putfield 80, 3) := by decide +kernel
theorem dX12_offer_5 : decode cX12_offer 5 = .ok (.iload_n 1, 1) := by decide +kernel
theorem dX12_offer_6 : decode cX12_offer 6 = .ok (.i2l, 1) := by decide +kernel
theorem dX12_offer_7 : decode cX12_offer 7 = .ok (.lconst 1, 1) := by decide +kernel
theorem dX12_offer_8 : decode cX12_offer 8 = .ok (.ldc2_w 288, 3) := by decide +kernel
theorem dX12_offer_11 : decode cX12_offer 11 = .ok (.invokestatic 83, 3) := by decide +kernel
theorem dX12_offer_14 : decode cX12_offer 14 = .ok (.ifCond .ne 9, 3) := by decide +kernel
theorem dX12_offer_17 : decode cX12_offer 17 = .ok (.aload_n 0, 1) := by decide +kernel
theorem dX12_offer_18 : decode cX12_offer 18 = .ok (.iconst 1, 1) := by decide +kernel
theorem dX12_offer_19 : decode cX12_offer 19 = .ok (.invokevirtual 95, 3) := by decide +kernel
theorem dX12_offer_22 : decode cX12_offer 22 = .ok (.ireturn, 1) := by decide +kernel
theorem dX12_offer_23 : decode cX12_offer 23 = .ok (.aload_n 0, 1) := by decide +kernel
theorem dX12_offer_24 : decode cX12_offer 24 = .ok (.getfield 9, 3) := by decide +kernel
theorem dX12_offer_27 : decode cX12_offer 27 = .ok (.iconst 2, 1) := by decide +kernel
theorem dX12_offer_28 : decode cX12_offer 28 = .ok (.iaload, 1) := by decide +kernel
theorem dX12_offer_29 : decode cX12_offer 29 = .ok (.bipush 6, 2) := by decide +kernel
theorem dX12_offer_31 : decode cX12_offer 31 = .ok (.if_icmp .ne 5, 3) := by decide +kernel
theorem dX12_offer_34 : decode cX12_offer 34 = .ok (.iconst (-1), 1) := by decide +kernel
theorem dX12_offer_35 : decode cX12_offer 35 = .ok (.ireturn, 1) := by decide +kernel
theorem dX12_offer_36 : decode cX12_offer 36 = .ok (.aload_n 0, 1) := by decide +kernel
theorem dX12_offer_37 : decode cX12_offer 37 = .ok (.getfield 9, 3) := by decide +kernel
theorem dX12_offer_40 : decode cX12_offer 40 = .ok (.sipush 351, 3) := by decide +kernel
theorem dX12_offer_43 : decode cX12_offer 43 = .ok (.aload_n 0, 1) := by decide +kernel
theorem dX12_offer_44 : decode cX12_offer 44 = .ok (.getfield 9, 3) := by decide +kernel
theorem dX12_offer_47 : decode cX12_offer 47 = .ok (.iconst 2, 1) := by decide +kernel
theorem dX12_offer_48 : decode cX12_offer 48 = .ok (.iaload, 1) := by decide +kernel
theorem dX12_offer_49 : decode cX12_offer 49 = .ok (.iadd, 1) := by decide +kernel
theorem dX12_offer_50 : decode cX12_offer 50 = .ok (.iload_n 1, 1) := by decide +kernel
theorem dX12_offer_51 : decode cX12_offer 51 = .ok (.iastore, 1) := by decide +kernel
theorem dX12_offer_52 : decode cX12_offer 52 = .ok (.aload_n 0, 1) := by decide +kernel
theorem dX12_offer_53 : decode cX12_offer 53 = .ok (.getfield 9, 3) := by decide +kernel
theorem dX12_offer_56 : decode cX12_offer 56 = .ok (.iconst 2, 1) := by decide +kernel
theorem dX12_offer_57 : decode cX12_offer 57 = .ok (.dup2, 1) := by decide +kernel
theorem dX12_offer_58 : decode cX12_offer 58 = .ok (.iaload, 1) := by decide +kernel
theorem dX12_offer_59 : decode cX12_offer 59 = .ok (.iconst 1, 1) := by decide +kernel
theorem dX12_offer_60 : decode cX12_offer 60 = .ok (.iadd, 1) := by decide +kernel
theorem dX12_offer_61 : decode cX12_offer 61 = .ok (.iastore, 1) := by decide +kernel
theorem dX12_offer_62 : decode cX12_offer 62 = .ok (.aload_n 0, 1) := by decide +kernel
theorem dX12_offer_63 : decode cX12_offer 63 = .ok (.getfield 9, 3) := by decide +kernel
theorem dX12_offer_66 : decode cX12_offer 66 = .ok (.iconst 2, 1) := by decide +kernel
theorem dX12_offer_67 : decode cX12_offer 67 = .ok (.iaload, 1) := by decide +kernel
theorem dX12_offer_68 : decode cX12_offer 68 = .ok (.iconst 1, 1) := by decide +kernel
theorem dX12_offer_69 : decode cX12_offer 69 = .ok (.isub, 1) := by decide +kernel
theorem dX12_offer_70 : decode cX12_offer 70 = .ok (.ireturn, 1) := by decide +kernel
set_option maxRecDepth 20000 in
theorem ggX12_isOffer_X12_is : GoodIn wsX12_isOffer wsX12_is := goodIn_r _ [5, 6, 7, 8, 4, 9, 10, 11, 12, 13, 14, 15, 16, 17, 18, 19, 20, 21, 22, 23, 24, 25, 26, 27, 28, 29, 30, 31, 32, 33, 34, 35, 36, 37, 38, 39, 40, 41, 42, 43, 44] (by decide +kernel) (by decide +kernel)
set_option maxRecDepth 20000 in
theorem gX12_isOffer_X12_is : GoodIn wsX12_isOffer (wsV RX12 87 RX12 yX12_is wsX12_is) := goodIn_app (goodIn_of _ (by decide +kernel)) ggX12_isOffer_X12_is
theorem dX12_isOffer_0 : decode cX12_isOffer 0 = .ok (.aload_n 0, 1) := by decide +kernel
theorem dX12_isOffer_1 : decode cX12_isOffer 1 = .ok (.iconst 2, 1) := by decide +kernel
theorem dX12_isOffer_2 : decode cX12_isOffer 2 = .ok (.iload_n 1, 1) := by decide +kernel
theorem dX12_isOffer_3 : decode cX12_isOffer 3 = .ok (.invokevirtual 87, 3) := by decide +kernel
theorem dX12_isOffer_6 : decode cX12_isOffer 6 = .ok (.ireturn, 1) := by decide +kernel
set_option maxRecDepth 20000 in
theorem ggX12_price_X12_isOffer : GoodIn wsX12_price wsX12_isOffer := goodIn_r _ [7, 8, 9, 10, 6, 11, 12, 13, 14, 15, 24, 25, 26, 27, 28, 29, 30, 31, 32, 33, 34, 35, 36, 37, 38, 39, 40, 41, 42, 43, 44, 45, 46, 47, 48, 49, 50, 51, 52, 53, 54, 55, 56, 57, 58] (by decide +kernel) (by decide +kernel)
set_option maxRecDepth 20000 in
theorem gX12_price_X12_isOffer : GoodIn wsX12_price (wsV RX12 290 RX12 yX12_isOffer wsX12_isOffer) := goodIn_app (goodIn_of _ (by decide +kernel)) ggX12_price_X12_isOffer
set_option maxRecDepth 20000 in
theorem ggX12_price_X12_fails : GoodIn wsX12_price wsX12_fails := goodIn_r _ [19, 1, 24, 25, 26, 27, 28, 29, 30, 31, 32, 33, 34, 35, 36, 37, 38, 39, 40, 41, 42, 43, 44, 45, 46, 47, 48, 49, 50, 51, 52, 53, 54, 55, 56, 57, 58] (by decide +kernel) (by decide +kernel)
set_option maxRecDepth 20000 in
theorem gX12_price_X12_fails : GoodIn wsX12_price (wsV RX12 95 RX12 yX12_fails wsX12_fails) := goodIn_app (goodIn_of _ (by decide +kernel)) ggX12_price_X12_fails
set_option maxRecDepth 20000 in
theorem ggX12_price_X12_within : GoodIn wsX12_price wsX12_within := goodIn_r _ [15] (by decide +kernel) (by decide +kernel)
set_option maxRecDepth 20000 in
theorem gX12_price_X12_within : GoodIn wsX12_price (va_wsS RX12 83 yX12_within wsX12_within) := goodIn_app (goodIn_of _ (by decide +kernel)) ggX12_price_X12_within
set_option maxRecDepth 20000 in
theorem ggX12_price_X12_becomes : GoodIn wsX12_price wsX12_becomes := goodIn_r _ [23, 12, 24, 25, 26, 27, 28, 29, 30, 31, 32, 33, 34, 35, 36, 37, 38, 39, 40, 41, 42, 43, 44, 45, 46, 47, 48, 49, 50, 51, 52, 53, 54, 55, 56, 57, 58] (by decide +kernel) (by decide +kernel)
set_option maxRecDepth 20000 in
theorem gX12_price_X12_becomes : GoodIn wsX12_price (wsV RX12 109 RX12 yX12_becomes wsX12_becomes) := goodIn_app (goodIn_of _ (by decide +kernel)) ggX12_price_X12_becomes
theorem dX12_price_0 : decode cX12_price 0 = .ok (.aload_n 0, 1) := by decide +kernel
theorem dX12_price_1 : decode cX12_price 1 = .ok (.iconst 0, 1) := by decide +kernel
theorem dX12_price_2 : decode cX12_price 2 = .ok (.putfield 80, 3) := by decide +kernel
theorem dX12_price_5 : decode cX12_price 5 = .ok (.aload_n 0, 1) := by decide +kernel
theorem dX12_price_6 : decode cX12_price 6 = .ok (.iload_n 1, 1) := by decide +kernel
theorem dX12_price_7 : decode cX12_price 7 = .ok (.invokevirtual 290, 3) := by decide +kernel
theorem dX12_price_10 : decode cX12_price 10 = .ok (.ifCond .ne 9, 3) := by decide +kernel
theorem dX12_price_13 : decode cX12_price 13 = .ok (.aload_n 0, 1) := by decide +kernel
theorem dX12_price_14 : decode cX12_price 14 = .ok (.iconst 1, 1) := by decide +kernel
theorem dX12_price_15 : decode cX12_price 15 = .ok (.invokevirtual 95, 3) := by decide +kernel
theorem dX12_price_18 : decode cX12_price 18 = .ok (.ireturn, 1) := by decide +kernel
theorem dX12_price_19 : decode cX12_price 19 = .ok (.iload_n 2, 1) := by decide +kernel
theorem dX12_price_20 : decode cX12_price 20 = .ok (.i2l, 1) := by decide +kernel
theorem dX12_price_21 : decode cX12_price 21 = .ok (.lconst 1, 1) := by decide +kernel
theorem dX12_price_22 : decode cX12_price 22 = .ok (.ldc2_w 288, 3) := by decide +kernel
theorem dX12_price_25 : decode cX12_price 25 = .ok (.invokestatic 83, 3) := by decide +kernel
theorem dX12_price_28 : decode cX12_price 28 = .ok (.ifCond .eq 16, 3) := by decide +kernel
theorem dX12_price_31 : decode cX12_price 31 = .ok (.aload_n 0, 1) := by decide +kernel
theorem dX12_price_32 : decode cX12_price 32 = .ok (.sipush 351, 3) := by decide +kernel
theorem dX12_price_35 : decode cX12_price 35 = .ok (.iload_n 1, 1) := by decide +kernel
theorem dX12_price_36 : decode cX12_price 36 = .ok (.iadd, 1) := by decide +kernel
theorem dX12_price_37 : decode cX12_price 37 = .ok (.iload_n 2, 1) := by decide +kernel
theorem dX12_price_38 : decode cX12_price 38 = .ok (.invokevirtual 109, 3) := by decide +kernel
theorem dX12_price_41 : decode cX12_price 41 = .ok (.goto 8, 3) := by decide +kernel
theorem dX12_price_44 : decode cX12_price 44 = .ok (.aload_n 0, 1) := by decide +kernel
theorem dX12_price_45 : decode cX12_price 45 = .ok (.iconst 2, 1) := by decide +kernel
theorem dX12_price_46 : decode cX12_price 46 = .ok (.invokevirtual 95, 3) := by decide +kernel
theorem dX12_price_49 : decode cX12_price 49 = .ok (.ireturn, 1) := by decide +kernel
theorem dX12_tubeAt_0 : decode cX12_tubeAt 0 = .ok (.sipush 159, 3) := by decide +kernel
theorem dX12_tubeAt_3 : decode cX12_tubeAt 3 = .ok (.bipush 21, 2) := by decide +kernel
theorem dX12_tubeAt_5 : decode cX12_tubeAt 5 = .ok (.iload_n 1, 1) := by decide +kernel
theorem dX12_tubeAt_6 : decode cX12_tubeAt 6 = .ok (.imul, 1) := by decide +kernel
theorem dX12_tubeAt_7 : decode cX12_tubeAt 7 = .ok (.iadd, 1) := by decide +kernel
theorem dX12_tubeAt_8 : decode cX12_tubeAt 8 = .ok (.ireturn, 1) := by decide +kernel
set_option maxRecDepth 20000 in
theorem ggX12_drops_X12_tubeAt : GoodIn wsX12_drops wsX12_tubeAt := goodIn_r _ [6] (by decide +kernel) (by decide +kernel)
set_option maxRecDepth 20000 in
theorem gX12_drops_X12_tubeAt : GoodIn wsX12_drops (wsV RX12 293 RX12 yX12_tubeAt wsX12_tubeAt) := goodIn_app (goodIn_of _ (by decide +kernel)) ggX12_drops_X12_tubeAt
theorem dX12_drops_0 : decode cX12_drops 0 = .ok (.aload_n 0, 1) := by decide +kernel
theorem dX12_drops_1 : decode cX12_drops 1 = .ok (.iload_n 1, 1) := by decide +kernel
theorem dX12_drops_2 : decode cX12_drops 2 = .ok (.invokevirtual 293, 3) := by decide +kernel
theorem dX12_drops_5 : decode cX12_drops 5 = .ok (.istore_n 3, 1) := by decide +kernel
theorem dX12_drops_6 : decode cX12_drops 6 = .ok (.aload_n 0, 1) := by decide +kernel
theorem dX12_drops_7 : decode cX12_drops 7 = .ok (.getfield 9, 3) := by decide +kernel
theorem dX12_drops_10 : decode cX12_drops 10 = .ok (.iload_n 3, 1) := by decide +kernel
theorem dX12_drops_11 : decode cX12_drops 11 = .ok (.iaload, 1) := by decide +kernel
theorem dX12_drops_12 : decode cX12_drops 12 = .ok (.bipush 20, 2) := by decide +kernel
theorem dX12_drops_14 : decode cX12_drops 14 = .ok (.if_icmp .ne 18, 3) := by decide +kernel
theorem dX12_drops_17 : decode cX12_drops 17 = .ok (.aload_n 0, 1) := by decide +kernel
theorem dX12_drops_18 : decode cX12_drops 18 = .ok (.getfield 9, 3) := by decide +kernel
theorem dX12_drops_21 : decode cX12_drops 21 = .ok (.sipush 327, 3) := by decide +kernel
theorem dX12_drops_24 : decode cX12_drops 24 = .ok (.iload_n 2, 1) := by decide +kernel
theorem dX12_drops_25 : decode cX12_drops 25 = .ok (.iadd, 1) := by decide +kernel
theorem dX12_drops_26 : decode cX12_drops 26 = .ok (.dup2, 1) := by decide +kernel
theorem dX12_drops_27 : decode cX12_drops 27 = .ok (.iaload, 1) := by decide +kernel
theorem dX12_drops_28 : decode cX12_drops 28 = .ok (.iconst 1, 1) := by decide +kernel
theorem dX12_drops_29 : decode cX12_drops 29 = .ok (.iadd, 1) := by decide +kernel
theorem dX12_drops_30 : decode cX12_drops 30 = .ok (.iastore, 1) := by decide +kernel
theorem dX12_drops_31 : decode cX12_drops 31 = .ok (.return_, 1) := by decide +kernel
theorem dX12_drops_32 : decode cX12_drops 32 = .ok (.aload_n 0, 1) := by decide +kernel
theorem dX12_drops_33 : decode cX12_drops 33 = .ok (.getfield 9, 3) := by decide +kernel
theorem dX12_drops_36 : decode cX12_drops 36 = .ok (.iload_n 3, 1) := by decide +kernel
theorem dX12_drops_37 : decode cX12_drops 37 = .ok (.dup2, 1) := by decide +kernel
theorem dX12_drops_38 : decode cX12_drops 38 = .ok (.iaload, 1) := by decide +kernel
theorem dX12_drops_39 : decode cX12_drops 39 = .ok (.iconst 1, 1) := by decide +kernel
theorem dX12_drops_40 : decode cX12_drops 40 = .ok (.iadd, 1) := by decide +kernel
theorem dX12_drops_41 : decode cX12_drops 41 = .ok (.iastore, 1) := by decide +kernel
theorem dX12_drops_42 : decode cX12_drops 42 = .ok (.aload_n 0, 1) := by decide +kernel
theorem dX12_drops_43 : decode cX12_drops 43 = .ok (.getfield 9, 3) := by decide +kernel
theorem dX12_drops_46 : decode cX12_drops 46 = .ok (.iload_n 3, 1) := by decide +kernel
theorem dX12_drops_47 : decode cX12_drops 47 = .ok (.aload_n 0, 1) := by decide +kernel
theorem dX12_drops_48 : decode cX12_drops 48 = .ok (.getfield 9, 3) := by decide +kernel
theorem dX12_drops_51 : decode cX12_drops 51 = .ok (.iload_n 3, 1) := by decide +kernel
theorem dX12_drops_52 : decode cX12_drops 52 = .ok (.iaload, 1) := by decide +kernel
theorem dX12_drops_53 : decode cX12_drops 53 = .ok (.iadd, 1) := by decide +kernel
theorem dX12_drops_54 : decode cX12_drops 54 = .ok (.iload_n 2, 1) := by decide +kernel
theorem dX12_drops_55 : decode cX12_drops 55 = .ok (.iastore, 1) := by decide +kernel
theorem dX12_drops_56 : decode cX12_drops 56 = .ok (.return_, 1) := by decide +kernel
set_option maxRecDepth 20000 in
theorem ggX12_load_X12_isSort : GoodIn wsX12_load wsX12_isSort := goodIn_r _ [8, 9, 10, 11, 7, 12, 3, 13, 14, 15, 28, 29, 30, 31, 32, 33, 34, 35, 36, 37, 38, 39, 40, 41, 42, 43, 44, 45, 46, 47, 48, 49, 50, 51, 52, 53, 54, 55, 56, 57, 58, 59, 60, 61, 62] (by decide +kernel) (by decide +kernel)
set_option maxRecDepth 20000 in
theorem gX12_load_X12_isSort : GoodIn wsX12_load (wsV RX12 99 RX12 yX12_isSort wsX12_isSort) := goodIn_app (goodIn_of _ (by decide +kernel)) ggX12_load_X12_isSort
set_option maxRecDepth 20000 in
theorem ggX12_load_X12_fails : GoodIn wsX12_load wsX12_fails := goodIn_r _ [19, 1, 28, 29, 30, 31, 32, 33, 34, 35, 36, 37, 38, 39, 40, 41, 42, 43, 44, 45, 46, 47, 48, 49, 50, 51, 52, 53, 54, 55, 56, 57, 58, 59, 60, 61, 62] (by decide +kernel) (by decide +kernel)
set_option maxRecDepth 20000 in
theorem gX12_load_X12_fails : GoodIn wsX12_load (wsV RX12 95 RX12 yX12_fails wsX12_fails) := goodIn_app (goodIn_of _ (by decide +kernel)) ggX12_load_X12_fails
set_option maxRecDepth 20000 in
theorem ggX12_load_X12_within : GoodIn wsX12_load wsX12_within := goodIn_r _ [15] (by decide +kernel) (by decide +kernel)
set_option maxRecDepth 20000 in
theorem gX12_load_X12_within : GoodIn wsX12_load (va_wsS RX12 83 yX12_within wsX12_within) := goodIn_app (goodIn_of _ (by decide +kernel)) ggX12_load_X12_within
set_option maxRecDepth 20000 in
theorem ggX12_load_X12_tubeAt : GoodIn wsX12_load wsX12_tubeAt := goodIn_r _ [23] (by decide +kernel) (by decide +kernel)
set_option maxRecDepth 20000 in
theorem gX12_load_X12_tubeAt : GoodIn wsX12_load (wsV RX12 293 RX12 yX12_tubeAt wsX12_tubeAt) := goodIn_app (goodIn_of _ (by decide +kernel)) ggX12_load_X12_tubeAt
set_option maxRecDepth 20000 in
theorem ggX12_load_X12_drops : GoodIn wsX12_load wsX12_drops := goodIn_r _ [27, 3, 20, 21, 22, 7, 23, 28, 29, 30, 31, 32, 33, 34, 35, 36, 37, 38, 39, 40, 41, 42, 43, 44, 45, 46, 47, 48, 49, 50, 51, 52, 53, 54, 55, 56, 57, 58, 59, 60, 61, 62] (by decide +kernel) (by decide +kernel)
set_option maxRecDepth 20000 in
theorem gX12_load_X12_drops : GoodIn wsX12_load (wsV RX12 298 RX12 yX12_drops wsX12_drops) := goodIn_app (goodIn_of _ (by decide +kernel)) ggX12_load_X12_drops
theorem dX12_load_0 : decode cX12_load 0 = .ok (.aload_n 0, 1) := by decide +kernel
theorem dX12_load_1 : decode cX12_load 1 = .ok (.iconst 0, 1) := by decide +kernel
theorem dX12_load_2 : decode cX12_load 2 = .ok (.putfield 80, 3) := by decide +kernel
theorem dX12_load_5 : decode cX12_load 5 = .ok (.aload_n 0, 1) := by decide +kernel
theorem dX12_load_6 : decode cX12_load 6 = .ok (.iload_n 1, 1) := by decide +kernel
theorem dX12_load_7 : decode cX12_load 7 = .ok (.invokevirtual 99, 3) := by decide +kernel
theorem dX12_load_10 : decode cX12_load 10 = .ok (.ifCond .eq 11, 3) := by decide +kernel
theorem dX12_load_13 : decode cX12_load 13 = .ok (.aload_n 0, 1) := by decide +kernel
theorem dX12_load_14 : decode cX12_load 14 = .ok (.iload_n 2, 1) := by decide +kernel
theorem dX12_load_15 : decode cX12_load 15 = .ok (.invokevirtual 99, 3) := by decide +kernel
theorem dX12_load_18 : decode cX12_load 18 = .ok (.ifCond .ne 9, 3) := by decide +kernel
theorem dX12_load_21 : decode cX12_load 21 = .ok (.aload_n 0, 1) := by decide +kernel
theorem dX12_load_22 : decode cX12_load 22 = .ok (.iconst 1, 1) := by decide +kernel
theorem dX12_load_23 : decode cX12_load 23 = .ok (.invokevirtual 95, 3) := by decide +kernel
theorem dX12_load_26 : decode cX12_load 26 = .ok (.ireturn, 1) := by decide +kernel
theorem dX12_load_27 : decode cX12_load 27 = .ok (.iload_n 3, 1) := by decide +kernel
theorem dX12_load_28 : decode cX12_load 28 = .ok (.i2l, 1) := by decide +kernel
theorem dX12_load_29 : decode cX12_load 29 = .ok (.lconst 1, 1) := by decide +kernel
theorem dX12_load_30 : decode cX12_load 30 = .ok (.ldc2_w 296, 3) := by decide +kernel
