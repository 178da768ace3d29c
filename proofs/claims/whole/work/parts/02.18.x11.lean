theorem dX11_buyer_95 : decode cX11_buyer 95 = .ok (.iload_n 2, 1) := by decide +kernel
theorem dX11_buyer_96 : decode cX11_buyer 96 = .ok (.iload_n 3, 1) := by decide +kernel
theorem dX11_buyer_97 : decode cX11_buyer 97 = .ok (.iload 4, 2) := by decide +kernel
theorem dX11_buyer_99 : decode cX11_buyer 99 = .ok (.iload 5, 2) := by decide +kernel
theorem dX11_buyer_101 : decode cX11_buyer 101 = .ok (.invokevirtual 370, 3) := by decide +kernel
theorem dX11_buyer_104 : decode cX11_buyer 104 = .ok (.iload 8, 2) := by decide +kernel
theorem dX11_buyer_106 : decode cX11_buyer 106 = .ok (.ireturn, 1) := by decide +kernel
set_option maxRecDepth 20000 in
theorem ggX11_most_X11_within : GoodIn wsX11_most wsX11_within := goodIn_r _ [6] (by decide +kernel) (by decide +kernel)
set_option maxRecDepth 20000 in
theorem gX11_most_X11_within : GoodIn wsX11_most (va_wsS RX11 93 yX11_within wsX11_within) := goodIn_app (goodIn_of _ (by decide +kernel)) ggX11_most_X11_within
set_option maxRecDepth 20000 in
theorem ggX11_most_X11_need : GoodIn wsX11_most wsX11_need := goodIn_ca (goodIn_r _ [9, 10, 11] (by decide +kernel) (by decide +kernel)) (goodIn_sub (fun _ h => List.mem_cons_of_mem _ (List.mem_append_right _ h)) (by decide +kernel))
set_option maxRecDepth 20000 in
theorem gX11_most_X11_need : GoodIn wsX11_most (va_wsS RX11 97 yX11_need wsX11_need) := goodIn_app (goodIn_of _ (by decide +kernel)) ggX11_most_X11_need
set_option maxRecDepth 20000 in
theorem ggX11_most_X5_mostOf : GoodIn wsX11_most wsX5_mostOf := goodIn_r _ [16, 17, 18, 19, 20, 15, 21, 22, 23, 24, 25, 26, 27, 28, 29, 30, 31, 32, 33, 34, 35, 36, 37, 38, 39, 40, 41, 42, 43, 44, 45, 46, 47, 48, 49, 50, 51, 4, 5, 6, 52, 53, 54, 55, 56, 57, 58, 59, 60, 61, 62, 63, 64, 65, 66, 67, 68, 69, 70, 71, 72, 73, 74, 75, 76, 77, 78, 79, 80, 81, 82, 83, 84, 85, 86, 87, 88, 89, 90, 91, 92, 93, 94, 95, 96, 97, 98, 99, 100, 101, 102, 103, 104, 105, 106, 107, 108, 109, 110, 111, 112, 113, 114, 115, 116, 117, 118, 119, 120, 121, 122, 123, 134, 135, 136, 137, 138, 139, 140, 141, 142, 143, 144, 145, 146, 147, 148, 149, 150, 151, 152, 153, 154, 155, 156, 157, 158, 159, 160, 161, 162, 163, 164, 165, 166, 167, 168, 169, 170, 171, 172, 173, 174, 175, 176, 177, 178, 179] (by decide +kernel) (by decide +kernel)
set_option maxRecDepth 20000 in
theorem gX11_most_X5_mostOf : GoodIn wsX11_most (wsV RX11 374 RX5 yX5_mostOf wsX5_mostOf) := goodIn_app (goodIn_of _ (by decide +kernel)) ggX11_most_X5_mostOf
theorem dX11_most_0 : decode cX11_most 0 = .ok (.iload_n 1, 1) := by decide +kernel
theorem dX11_most_1 : decode cX11_most 1 = .ok (.i2l, 1) := by decide +kernel
theorem dX11_most_2 : decode cX11_most 2 = .ok (.lconst 1, 1) := by decide +kernel
theorem dX11_most_3 : decode cX11_most 3 = .ok (.ldc2_w 141, 3) := by decide +kernel
theorem dX11_most_6 : decode cX11_most 6 = .ok (.invokestatic 93, 3) := by decide +kernel
theorem dX11_most_9 : decode cX11_most 9 = .ok (.invokestatic 97, 3) := by decide +kernel
theorem dX11_most_12 : decode cX11_most 12 = .ok (.aload_n 0, 1) := by decide +kernel
theorem dX11_most_13 : decode cX11_most 13 = .ok (.getfield 77, 3) := by decide +kernel
theorem dX11_most_16 : decode cX11_most 16 = .ok (.iload_n 1, 1) := by decide +kernel
theorem dX11_most_17 : decode cX11_most 17 = .ok (.invokevirtual 374, 3) := by decide +kernel
theorem dX11_most_20 : decode cX11_most 20 = .ok (.lreturn, 1) := by decide +kernel
set_option maxRecDepth 20000 in
theorem ggX11_serve_X11_within : GoodIn wsX11_serve wsX11_within := goodIn_r _ [8] (by decide +kernel) (by decide +kernel)
set_option maxRecDepth 20000 in
theorem gX11_serve_X11_within : GoodIn wsX11_serve (va_wsS RX11 93 yX11_within wsX11_within) := goodIn_app (goodIn_of _ (by decide +kernel)) ggX11_serve_X11_within
set_option maxRecDepth 20000 in
theorem ggX11_serve_X11_needThere : GoodIn wsX11_serve wsX11_needThere := goodIn_ca (goodIn_r _ [11, 12, 13] (by decide +kernel) (by decide +kernel)) (goodIn_sub (fun _ h => List.mem_cons_of_mem _ (List.mem_append_left _ (List.mem_append_right _ h))) (by decide +kernel))
set_option maxRecDepth 20000 in
theorem gX11_serve_X11_needThere : GoodIn wsX11_serve (va_wsS RX11 115 yX11_needThere wsX11_needThere) := goodIn_app (goodIn_of _ (by decide +kernel)) ggX11_serve_X11_needThere
set_option maxRecDepth 20000 in
theorem ggX11_serve_X11_need : GoodIn wsX11_serve wsX11_need := goodIn_ca (goodIn_r _ [16, 17, 18] (by decide +kernel) (by decide +kernel)) (goodIn_sub (fun _ h => List.mem_cons_of_mem _ (List.mem_append_right _ h)) (by decide +kernel))
set_option maxRecDepth 20000 in
theorem gX11_serve_X11_need : GoodIn wsX11_serve (va_wsS RX11 97 yX11_need wsX11_need) := goodIn_app (goodIn_of _ (by decide +kernel)) ggX11_serve_X11_need
set_option maxRecDepth 20000 in
theorem ggX11_serve_X5_advice : GoodIn wsX11_serve wsX5_advice := goodIn_r _ [23, 24, 25, 26, 27, 28, 29, 22, 30, 31, 32, 33, 34, 35, 36, 37, 38, 39, 40, 41, 42, 43, 44, 45, 46, 47, 48, 49, 50, 51, 52, 53, 54, 55, 56, 57, 58, 59, 60, 6, 7, 8, 61, 62, 63, 64, 65, 66, 67, 68, 69, 70, 71, 72, 73, 74, 75, 76, 77, 78, 79, 80, 81, 82, 83, 84, 85, 86, 87, 88, 89, 90, 91, 92, 93, 94, 95, 96, 97, 98, 99, 100, 101, 102, 103, 104, 105, 106, 107, 108, 109, 110, 111, 112, 113, 114, 115, 116, 117, 118, 119, 120, 121, 122, 123, 124, 125, 126, 127, 128, 129, 130, 154, 155, 156, 157, 158, 159, 160, 161, 141, 142, 143, 144, 145, 146, 147, 148, 149, 150, 151, 152, 153, 162, 163, 164, 165, 166, 167, 168, 169, 170, 171, 172, 173, 174, 175, 176, 177, 178, 179, 180, 181, 182, 183, 184, 185, 186] (by decide +kernel) (by decide +kernel)
set_option maxRecDepth 20000 in
theorem gX11_serve_X5_advice : GoodIn wsX11_serve (wsV RX11 380 RX5 yX5_advice wsX5_advice) := goodIn_app (goodIn_of _ (by decide +kernel)) ggX11_serve_X5_advice
theorem dX11_serve_0 : decode cX11_serve 0 = .ok (.iload_n 2, 1) := by decide +kernel
theorem dX11_serve_1 : decode cX11_serve 1 = .ok (.i2l, 1) := by decide +kernel
theorem dX11_serve_2 : decode cX11_serve 2 = .ok (.lconst 0, 1) := by decide +kernel
theorem dX11_serve_3 : decode cX11_serve 3 = .ok (.aload_n 0, 1) := by decide +kernel
theorem dX11_serve_4 : decode cX11_serve 4 = .ok (.getfield 10, 3) := by decide +kernel
theorem dX11_serve_7 : decode cX11_serve 7 = .ok (.getfield 377, 3) := by decide +kernel
theorem dX11_serve_10 : decode cX11_serve 10 = .ok (.iconst 1, 1) := by decide +kernel
theorem dX11_serve_11 : decode cX11_serve 11 = .ok (.isub, 1) := by decide +kernel
theorem dX11_serve_12 : decode cX11_serve 12 = .ok (.i2l, 1) := by decide +kernel
theorem dX11_serve_13 : decode cX11_serve 13 = .ok (.invokestatic 93, 3) := by decide +kernel
theorem dX11_serve_16 : decode cX11_serve 16 = .ok (.invokestatic 115, 3) := by decide +kernel
theorem dX11_serve_19 : decode cX11_serve 19 = .ok (.iload_n 1, 1) := by decide +kernel
theorem dX11_serve_20 : decode cX11_serve 20 = .ok (.i2l, 1) := by decide +kernel
theorem dX11_serve_21 : decode cX11_serve 21 = .ok (.lconst 1, 1) := by decide +kernel
theorem dX11_serve_22 : decode cX11_serve 22 = .ok (.ldc2_w 141, 3) := by decide +kernel
theorem dX11_serve_25 : decode cX11_serve 25 = .ok (.invokestatic 93, 3) := by decide +kernel
theorem dX11_serve_28 : decode cX11_serve 28 = .ok (.invokestatic 97, 3) := by decide +kernel
theorem dX11_serve_31 : decode cX11_serve 31 = .ok (.aload_n 0, 1) := by decide +kernel
theorem dX11_serve_32 : decode cX11_serve 32 = .ok (.getfield 77, 3) := by decide +kernel
theorem dX11_serve_35 : decode cX11_serve 35 = .ok (.iload_n 1, 1) := by decide +kernel
theorem dX11_serve_36 : decode cX11_serve 36 = .ok (.iload_n 2, 1) := by decide +kernel
theorem dX11_serve_37 : decode cX11_serve 37 = .ok (.invokevirtual 380, 3) := by decide +kernel
theorem dX11_serve_40 : decode cX11_serve 40 = .ok (.ireturn, 1) := by decide +kernel
set_option maxRecDepth 20000 in
theorem ggX11_machine_X11_within : GoodIn wsX11_machine wsX11_within := goodIn_r _ [6] (by decide +kernel) (by decide +kernel)
set_option maxRecDepth 20000 in
theorem gX11_machine_X11_within : GoodIn wsX11_machine (va_wsS RX11 93 yX11_within wsX11_within) := goodIn_app (goodIn_of _ (by decide +kernel)) ggX11_machine_X11_within
set_option maxRecDepth 20000 in
theorem ggX11_machine_X11_need : GoodIn wsX11_machine wsX11_need := goodIn_ca (goodIn_r _ [9, 10, 11] (by decide +kernel) (by decide +kernel)) (goodIn_sub (fun _ h => List.mem_cons_of_mem _ (List.mem_append_right _ h)) (by decide +kernel))
set_option maxRecDepth 20000 in
theorem gX11_machine_X11_need : GoodIn wsX11_machine (va_wsS RX11 97 yX11_need wsX11_need) := goodIn_app (goodIn_of _ (by decide +kernel)) ggX11_machine_X11_need
set_option maxRecDepth 20000 in
theorem ggX11_machine_X8_addMachine : GoodIn wsX11_machine wsX8_addMachine := goodIn_r _ [16, 17, 18, 19, 30, 31, 32, 33, 34, 35, 36, 37, 38, 39, 40, 41, 42] (by decide +kernel) (by decide +kernel)
set_option maxRecDepth 20000 in
theorem gX11_machine_X8_addMachine : GoodIn wsX11_machine (wsV RX11 385 RX8 yX8_addMachine wsX8_addMachine) := goodIn_app (goodIn_of _ (by decide +kernel)) ggX11_machine_X8_addMachine
theorem dX11_machine_0 : decode cX11_machine 0 = .ok (.iload_n 1, 1) := by decide +kernel
theorem dX11_machine_1 : decode cX11_machine 1 = .ok (.i2l, 1) := by decide +kernel
theorem dX11_machine_2 : decode cX11_machine 2 = .ok (.lconst 0, 1) := by decide +kernel
theorem dX11_machine_3 : decode cX11_machine 3 = .ok (.ldc2_w 383, 3) := by decide +kernel
theorem dX11_machine_6 : decode cX11_machine 6 = .ok (.invokestatic 93, 3) := by decide +kernel
theorem dX11_machine_9 : decode cX11_machine 9 = .ok (.invokestatic 97, 3) := by decide +kernel
theorem dX11_machine_12 : decode cX11_machine 12 = .ok (.iload_n 2, 1) := by decide +kernel
theorem dX11_machine_13 : decode cX11_machine 13 = .ok (.i2l, 1) := by decide +kernel
theorem dX11_machine_14 : decode cX11_machine 14 = .ok (.lconst 1, 1) := by decide +kernel
theorem dX11_machine_15 : decode cX11_machine 15 = .ok (.ldc2_w 383, 3) := by decide +kernel
theorem dX11_machine_18 : decode cX11_machine 18 = .ok (.invokestatic 93, 3) := by decide +kernel
theorem dX11_machine_21 : decode cX11_machine 21 = .ok (.invokestatic 97, 3) := by decide +kernel
theorem dX11_machine_24 : decode cX11_machine 24 = .ok (.aload_n 0, 1) := by decide +kernel
theorem dX11_machine_25 : decode cX11_machine 25 = .ok (.getfield 10, 3) := by decide +kernel
theorem dX11_machine_28 : decode cX11_machine 28 = .ok (.iload_n 1, 1) := by decide +kernel
theorem dX11_machine_29 : decode cX11_machine 29 = .ok (.iload_n 2, 1) := by decide +kernel
theorem dX11_machine_30 : decode cX11_machine 30 = .ok (.invokevirtual 385, 3) := by decide +kernel
theorem dX11_machine_33 : decode cX11_machine 33 = .ok (.ireturn, 1) := by decide +kernel
set_option maxRecDepth 20000 in
theorem ggX11_rounds_X11_within : GoodIn wsX11_rounds wsX11_within := goodIn_r _ [8] (by decide +kernel) (by decide +kernel)
set_option maxRecDepth 20000 in
theorem gX11_rounds_X11_within : GoodIn wsX11_rounds (va_wsS RX11 93 yX11_within wsX11_within) := goodIn_app (goodIn_of _ (by decide +kernel)) ggX11_rounds_X11_within
set_option maxRecDepth 20000 in
theorem ggX11_rounds_X11_need : GoodIn wsX11_rounds wsX11_need := goodIn_ca (goodIn_r _ [11, 12, 13] (by decide +kernel) (by decide +kernel)) (goodIn_sub (fun _ h => List.mem_cons_of_mem _ (List.mem_append_right _ h)) (by decide +kernel))
set_option maxRecDepth 20000 in
theorem gX11_rounds_X11_need : GoodIn wsX11_rounds (va_wsS RX11 97 yX11_need wsX11_need) := goodIn_app (goodIn_of _ (by decide +kernel)) ggX11_rounds_X11_need
set_option maxRecDepth 20000 in
theorem ggX11_rounds_X1_leastDry : GoodIn wsX11_rounds wsX1_leastDry := goodIn_r _ [18, 19, 20, 21, 17, 22, 23, 24, 25, 26, 27, 28, 29, 30, 31, 32, 33, 34, 35, 36, 37, 38, 39, 40, 41, 42, 43, 44, 45, 46, 47, 48, 49, 50, 51, 52, 84, 85, 71, 72, 73, 74, 75, 76, 77, 78, 79, 80, 81, 82, 83] (by decide +kernel) (by decide +kernel)
set_option maxRecDepth 20000 in
theorem gX11_rounds_X1_leastDry : GoodIn wsX11_rounds (wsV RX11 393 RX1 yX1_leastDry wsX1_leastDry) := goodIn_app (goodIn_of _ (by decide +kernel)) ggX11_rounds_X1_leastDry
set_option maxRecDepth 20000 in
theorem ggX11_rounds_X1_filledOn : GoodIn wsX11_rounds wsX1_filledOn := goodIn_r _ [56, 19, 20, 21, 17, 22, 23, 24, 25, 26, 27, 28, 29, 30, 31, 32, 33, 34, 35, 57, 58, 59, 60, 36, 37, 38, 39, 40, 41, 42, 43, 44, 45, 46, 47, 48, 49, 50, 51, 52, 84, 85, 71, 72, 73, 74, 75, 76, 77, 78, 79, 80, 81, 82, 83] (by decide +kernel) (by decide +kernel)
set_option maxRecDepth 20000 in
theorem gX11_rounds_X1_filledOn : GoodIn wsX11_rounds (wsV RX11 396 RX1 yX1_filledOn wsX1_filledOn) := goodIn_app (goodIn_of _ (by decide +kernel)) ggX11_rounds_X1_filledOn
theorem dX11_rounds_0 : decode cX11_rounds 0 = .ok (.iload_n 1, 1) := by decide +kernel
theorem dX11_rounds_1 : decode cX11_rounds 1 = .ok (.i2l, 1) := by decide +kernel
theorem dX11_rounds_2 : decode cX11_rounds 2 = .ok (.lconst 1, 1) := by decide +kernel
theorem dX11_rounds_3 : decode cX11_rounds 3 = .ok (.ldc2_w 388, 3) := by decide +kernel
theorem dX11_rounds_6 : decode cX11_rounds 6 = .ok (.invokestatic 93, 3) := by decide +kernel
theorem dX11_rounds_9 : decode cX11_rounds 9 = .ok (.invokestatic 97, 3) := by decide +kernel
theorem dX11_rounds_12 : decode cX11_rounds 12 = .ok (.aload_n 0, 1) := by decide +kernel
theorem dX11_rounds_13 : decode cX11_rounds 13 = .ok (.getfield 10, 3) := by decide +kernel
theorem dX11_rounds_16 : decode cX11_rounds 16 = .ok (.getfield 390, 3) := by decide +kernel
theorem dX11_rounds_19 : decode cX11_rounds 19 = .ok (.ifCond .ne 5, 3) := by decide +kernel
theorem dX11_rounds_22 : decode cX11_rounds 22 = .ok (.iconst (-1), 1) := by decide +kernel
theorem dX11_rounds_23 : decode cX11_rounds 23 = .ok (.ireturn, 1) := by decide +kernel
theorem dX11_rounds_24 : decode cX11_rounds 24 = .ok (.iload_n 2, 1) := by decide +kernel
theorem dX11_rounds_25 : decode cX11_rounds 25 = .ok (.iconst (-1), 1) := by decide +kernel
theorem dX11_rounds_26 : decode cX11_rounds 26 = .ok (.if_icmp .ne 12, 3) := by decide +kernel
theorem dX11_rounds_29 : decode cX11_rounds 29 = .ok (.aload_n 0, 1) := by decide +kernel
theorem dX11_rounds_30 : decode cX11_rounds 30 = .ok (.getfield 86, 3) := by decide +kernel
theorem dX11_rounds_33 : decode cX11_rounds 33 = .ok (.iload_n 1, 1) := by decide +kernel
theorem dX11_rounds_34 : decode cX11_rounds 34 = .ok (.invokevirtual 393, 3) := by decide +kernel
theorem dX11_rounds_37 : decode cX11_rounds 37 = .ok (.ireturn, 1) := by decide +kernel
theorem dX11_rounds_38 : decode cX11_rounds 38 = .ok (.iload_n 2, 1) := by decide +kernel
theorem dX11_rounds_39 : decode cX11_rounds 39 = .ok (.i2l, 1) := by decide +kernel
theorem dX11_rounds_40 : decode cX11_rounds 40 = .ok (.lconst 0, 1) := by decide +kernel
theorem dX11_rounds_41 : decode cX11_rounds 41 = .ok (.iload_n 1, 1) := by decide +kernel
theorem dX11_rounds_42 : decode cX11_rounds 42 = .ok (.iconst 1, 1) := by decide +kernel
theorem dX11_rounds_43 : decode cX11_rounds 43 = .ok (.isub, 1) := by decide +kernel
theorem dX11_rounds_44 : decode cX11_rounds 44 = .ok (.i2l, 1) := by decide +kernel
theorem dX11_rounds_45 : decode cX11_rounds 45 = .ok (.invokestatic 93, 3) := by decide +kernel
theorem dX11_rounds_48 : decode cX11_rounds 48 = .ok (.ifCond .eq 15, 3) := by decide +kernel
theorem dX11_rounds_51 : decode cX11_rounds 51 = .ok (.aload_n 0, 1) := by decide +kernel
theorem dX11_rounds_52 : decode cX11_rounds 52 = .ok (.getfield 86, 3) := by decide +kernel
theorem dX11_rounds_55 : decode cX11_rounds 55 = .ok (.iload_n 1, 1) := by decide +kernel
theorem dX11_rounds_56 : decode cX11_rounds 56 = .ok (.iload_n 2, 1) := by decide +kernel
theorem dX11_rounds_57 : decode cX11_rounds 57 = .ok (.invokevirtual 396, 3) := by decide +kernel
theorem dX11_rounds_60 : decode cX11_rounds 60 = .ok (.goto 4, 3) := by decide +kernel
theorem dX11_rounds_63 : decode cX11_rounds 63 = .ok (.iconst (-1), 1) := by decide +kernel
theorem dX11_rounds_64 : decode cX11_rounds 64 = .ok (.ireturn, 1) := by decide +kernel
set_option maxRecDepth 20000 in
theorem ggX11_tray_X11_within : GoodIn wsX11_tray wsX11_within := goodIn_r _ [7] (by decide +kernel) (by decide +kernel)
set_option maxRecDepth 20000 in
theorem gX11_tray_X11_within : GoodIn wsX11_tray (va_wsS RX11 93 yX11_within wsX11_within) := goodIn_app (goodIn_of _ (by decide +kernel)) ggX11_tray_X11_within
set_option maxRecDepth 20000 in
theorem ggX11_tray_X11_needThere : GoodIn wsX11_tray wsX11_needThere := goodIn_ca (goodIn_r _ [10, 11, 12] (by decide +kernel) (by decide +kernel)) (goodIn_sub (fun _ h => List.mem_cons_of_mem _ (List.mem_append_left _ (List.mem_append_right _ h))) (by decide +kernel))
set_option maxRecDepth 20000 in
theorem gX11_tray_X11_needThere : GoodIn wsX11_tray (va_wsS RX11 115 yX11_needThere wsX11_needThere) := goodIn_app (goodIn_of _ (by decide +kernel)) ggX11_tray_X11_needThere
set_option maxRecDepth 20000 in
theorem ggX11_tray_X11_need : GoodIn wsX11_tray wsX11_need := goodIn_ca (goodIn_r _ [15, 16, 17] (by decide +kernel) (by decide +kernel)) (goodIn_sub (fun _ h => List.mem_cons_of_mem _ (List.mem_append_right _ h)) (by decide +kernel))
set_option maxRecDepth 20000 in
theorem gX11_tray_X11_need : GoodIn wsX11_tray (va_wsS RX11 97 yX11_need wsX11_need) := goodIn_app (goodIn_of _ (by decide +kernel)) ggX11_tray_X11_need
set_option maxRecDepth 20000 in
theorem ggX11_tray_X10_lay : GoodIn wsX11_tray wsX10_lay := goodIn_r _ [22, 23, 24, 25, 26, 27, 28, 29, 40, 41, 42] (by decide +kernel) (by decide +kernel)
set_option maxRecDepth 20000 in
theorem gX11_tray_X10_lay : GoodIn wsX11_tray (wsV RX11 399 RX10 yX10_lay wsX10_lay) := goodIn_app (goodIn_of _ (by decide +kernel)) ggX11_tray_X10_lay
theorem dX11_tray_0 : decode cX11_tray 0 = .ok (.iload_n 1, 1) := by decide +kernel
theorem dX11_tray_1 : decode cX11_tray 1 = .ok (.i2l, 1) := by decide +kernel
theorem dX11_tray_2 : decode cX11_tray 2 = .ok (.lconst 0, 1) := by decide +kernel
theorem dX11_tray_3 : decode cX11_tray 3 = .ok (.ldc2_w 141, 3) := by decide +kernel
theorem dX11_tray_6 : decode cX11_tray 6 = .ok (.invokestatic 93, 3) := by decide +kernel
theorem dX11_tray_9 : decode cX11_tray 9 = .ok (.invokestatic 115, 3) := by decide +kernel
theorem dX11_tray_12 : decode cX11_tray 12 = .ok (.iload_n 2, 1) := by decide +kernel
theorem dX11_tray_13 : decode cX11_tray 13 = .ok (.i2l, 1) := by decide +kernel
theorem dX11_tray_14 : decode cX11_tray 14 = .ok (.lconst 0, 1) := by decide +kernel
theorem dX11_tray_15 : decode cX11_tray 15 = .ok (.ldc2_w 141, 3) := by decide +kernel
theorem dX11_tray_18 : decode cX11_tray 18 = .ok (.invokestatic 93, 3) := by decide +kernel
theorem dX11_tray_21 : decode cX11_tray 21 = .ok (.invokestatic 97, 3) := by decide +kernel
theorem dX11_tray_24 : decode cX11_tray 24 = .ok (.iload_n 3, 1) := by decide +kernel
theorem dX11_tray_25 : decode cX11_tray 25 = .ok (.i2l, 1) := by decide +kernel
theorem dX11_tray_26 : decode cX11_tray 26 = .ok (.lconst 0, 1) := by decide +kernel
theorem dX11_tray_27 : decode cX11_tray 27 = .ok (.ldc2_w 143, 3) := by decide +kernel
theorem dX11_tray_30 : decode cX11_tray 30 = .ok (.invokestatic 93, 3) := by decide +kernel
theorem dX11_tray_33 : decode cX11_tray 33 = .ok (.invokestatic 97, 3) := by decide +kernel
theorem dX11_tray_36 : decode cX11_tray 36 = .ok (.aload_n 0, 1) := by decide +kernel
theorem dX11_tray_37 : decode cX11_tray 37 = .ok (.getfield 26, 3) := by decide +kernel
theorem dX11_tray_40 : decode cX11_tray 40 = .ok (.iload_n 1, 1) := by decide +kernel
theorem dX11_tray_41 : decode cX11_tray 41 = .ok (.aaload, 1) := by decide +kernel
theorem dX11_tray_42 : decode cX11_tray 42 = .ok (.iload_n 2, 1) := by decide +kernel
theorem dX11_tray_43 : decode cX11_tray 43 = .ok (.iload_n 3, 1) := by decide +kernel
theorem dX11_tray_44 : decode cX11_tray 44 = .ok (.invokevirtual 399, 3) := by decide +kernel
theorem dX11_tray_47 : decode cX11_tray 47 = .ok (.return_, 1) := by decide +kernel
set_option maxRecDepth 20000 in
theorem ggX11_write_X11_trayAt : GoodIn wsX11_write wsX11_trayAt := goodIn_ca (goodIn_ca (goodIn_r _ [9, 10, 11, 12, 13, 14, 15, 16, 8, 17, 18, 19, 20, 21, 22, 32, 33, 34, 35, 36, 37, 38, 39, 40, 41, 29, 30, 31] (by decide +kernel) (by decide +kernel)) (goodIn_sub (fun _ h => List.mem_cons_of_mem _ (List.mem_append_left _ (List.mem_append_right _ h))) (by decide +kernel))) (goodIn_sub (fun _ h => List.mem_cons_of_mem _ (List.mem_append_right _ h)) (by decide +kernel))
set_option maxRecDepth 20000 in
theorem gX11_write_X11_trayAt : GoodIn wsX11_write (wsV RX11 402 RX11 yX11_trayAt wsX11_trayAt) := goodIn_app (goodIn_of _ (by decide +kernel)) ggX11_write_X11_trayAt
set_option maxRecDepth 20000 in
theorem ggX11_write_X11_within : GoodIn wsX11_write wsX11_within := goodIn_r _ [17] (by decide +kernel) (by decide +kernel)
set_option maxRecDepth 20000 in
theorem gX11_write_X11_within : GoodIn wsX11_write (va_wsS RX11 93 yX11_within wsX11_within) := goodIn_app (goodIn_of _ (by decide +kernel)) ggX11_write_X11_within
set_option maxRecDepth 20000 in
theorem ggX11_write_X10_cut : GoodIn wsX11_write wsX10_cut := goodIn_r _ [27, 28, 29, 30, 31] (by decide +kernel) (by decide +kernel)
set_option maxRecDepth 20000 in
theorem gX11_write_X10_cut : GoodIn wsX11_write (wsV RX11 417 RX10 yX10_cut wsX10_cut) := goodIn_app (goodIn_of _ (by decide +kernel)) ggX11_write_X10_cut
theorem dX11_write_0 : decode cX11_write 0 = .ok (.aload_n 0, 1) := by decide +kernel
theorem dX11_write_1 : decode cX11_write 1 = .ok (.iload_n 1, 1) := by decide +kernel
theorem dX11_write_2 : decode cX11_write 2 = .ok (.invokevirtual 402, 3) := by decide +kernel
theorem dX11_write_5 : decode cX11_write 5 = .ok (.astore 5, 2) := by decide +kernel
theorem dX11_write_7 : decode cX11_write 7 = .ok (.iload_n 2, 1) := by decide +kernel
theorem dX11_write_8 : decode cX11_write 8 = .ok (.i2l, 1) := by decide +kernel
theorem dX11_write_9 : decode cX11_write 9 = .ok (.lconst 0, 1) := by decide +kernel
theorem dX11_write_10 : decode cX11_write 10 = .ok (.aload 5, 2) := by decide +kernel
theorem dX11_write_12 : decode cX11_write 12 = .ok (.getfield 406, 3) := by decide +kernel
theorem dX11_write_15 : decode cX11_write 15 = .ok (.iconst 1, 1) := by decide +kernel
theorem dX11_write_16 : decode cX11_write 16 = .ok (.isub, 1) := by decide +kernel
theorem dX11_write_17 : decode cX11_write 17 = .ok (.i2l, 1) := by decide +kernel
theorem dX11_write_18 : decode cX11_write 18 = .ok (.invokestatic 93, 3) := by decide +kernel
theorem dX11_write_21 : decode cX11_write 21 = .ok (.ifCond .ne 14, 3) := by decide +kernel
theorem dX11_write_24 : decode cX11_write 24 = .ok (.new 407, 3) := by decide +kernel
theorem dX11_write_27 : decode cX11_write 27 = .ok (.dup, 1) := by decide +kernel
theorem dX11_write_28 : decode cX11_write 28 = .ok (.ldc_w 409, 3) := by decide +kernel
theorem dX11_write_31 : decode cX11_write 31 = .ok (.invokespecial 411, 3) := by decide +kernel
theorem dX11_write_34 : decode cX11_write 34 = .ok (.athrow, 1) := by decide +kernel
theorem dX11_write_35 : decode cX11_write 35 = .ok (.aload 5, 2) := by decide +kernel
theorem dX11_write_37 : decode cX11_write 37 = .ok (.getfield 414, 3) := by decide +kernel
theorem dX11_write_40 : decode cX11_write 40 = .ok (.iload_n 2, 1) := by decide +kernel
theorem dX11_write_41 : decode cX11_write 41 = .ok (.aload 5, 2) := by decide +kernel
theorem dX11_write_43 : decode cX11_write 43 = .ok (.lload_n 3, 1) := by decide +kernel
theorem dX11_write_44 : decode cX11_write 44 = .ok (.invokevirtual 417, 3) := by decide +kernel
theorem dX11_write_47 : decode cX11_write 47 = .ok (.lastore, 1) := by decide +kernel
theorem dX11_write_48 : decode cX11_write 48 = .ok (.aload 5, 2) := by decide +kernel
theorem dX11_write_50 : decode cX11_write 50 = .ok (.getfield 414, 3) := by decide +kernel
theorem dX11_write_53 : decode cX11_write 53 = .ok (.iload_n 2, 1) := by decide +kernel
theorem dX11_write_54 : decode cX11_write 54 = .ok (.laload, 1) := by decide +kernel
theorem dX11_write_55 : decode cX11_write 55 = .ok (.lreturn, 1) := by decide +kernel
set_option maxRecDepth 20000 in
theorem ggX11_pour_X11_needSort : GoodIn wsX11_pour wsX11_needSort := goodIn_ca (goodIn_r _ [12, 1, 2, 13, 14, 15, 16, 17, 18, 19, 20, 11, 21, 22, 23, 65, 66, 67, 68, 69, 70, 71, 72, 73, 74, 75, 76, 77, 78, 79, 80, 81, 82, 83, 84, 85, 86, 87, 88, 89, 90, 91, 92, 93, 94, 95, 96] (by decide +kernel) (by decide +kernel)) (goodIn_sub (fun _ h => List.mem_cons_of_mem _ (List.mem_append_left _ (List.mem_append_left _ (List.mem_append_right _ h)))) (by decide +kernel))
set_option maxRecDepth 20000 in
theorem gX11_pour_X11_needSort : GoodIn wsX11_pour (wsV RX11 109 RX11 yX11_needSort wsX11_needSort) := goodIn_app (goodIn_of _ (by decide +kernel)) ggX11_pour_X11_needSort
set_option maxRecDepth 20000 in
theorem ggX11_pour_X11_trayAt : GoodIn wsX11_pour wsX11_trayAt := goodIn_ca (goodIn_ca (goodIn_r _ [27, 28, 29, 30, 31, 32, 33, 34, 11, 35, 19, 20, 21, 22, 23, 65, 66, 67, 68, 69, 70, 71, 72, 73, 74, 97, 98, 99] (by decide +kernel) (by decide +kernel)) (goodIn_sub (fun _ h => List.mem_cons_of_mem _ (List.mem_append_left _ (List.mem_append_right _ h))) (by decide +kernel))) (goodIn_sub (fun _ h => List.mem_cons_of_mem _ (List.mem_append_left _ (List.mem_append_left _ (List.mem_append_right _ h)))) (by decide +kernel))
set_option maxRecDepth 20000 in
theorem gX11_pour_X11_trayAt : GoodIn wsX11_pour (wsV RX11 402 RX11 yX11_trayAt wsX11_trayAt) := goodIn_app (goodIn_of _ (by decide +kernel)) ggX11_pour_X11_trayAt
set_option maxRecDepth 20000 in
theorem ggX11_pour_X10_holdsSorts : GoodIn wsX11_pour wsX10_holdsSorts := goodIn_r _ [40, 41, 42, 34, 11, 35, 97, 98, 99] (by decide +kernel) (by decide +kernel)
set_option maxRecDepth 20000 in
theorem gX11_pour_X10_holdsSorts : GoodIn wsX11_pour (wsV RX11 421 RX10 yX10_holdsSorts wsX10_holdsSorts) := goodIn_app (goodIn_of _ (by decide +kernel)) ggX11_pour_X10_holdsSorts
set_option maxRecDepth 20000 in
theorem ggX11_pour_X11_need : GoodIn wsX11_pour wsX11_need := goodIn_ca (goodIn_r _ [45, 46, 47] (by decide +kernel) (by decide +kernel)) (goodIn_sub (fun _ h => List.mem_cons_of_mem _ (List.mem_append_right _ h)) (by decide +kernel))
set_option maxRecDepth 20000 in
theorem gX11_pour_X11_need : GoodIn wsX11_pour (va_wsS RX11 97 yX11_need wsX11_need) := goodIn_app (goodIn_of _ (by decide +kernel)) ggX11_pour_X11_need
set_option maxRecDepth 20000 in
theorem ggX11_pour_X9_hasRoom : GoodIn wsX11_pour wsX9_hasRoom := goodIn_r _ [52, 53, 100, 101, 102, 103, 104, 105, 106, 107, 108, 109, 110, 111, 112] (by decide +kernel) (by decide +kernel)
set_option maxRecDepth 20000 in
theorem gX11_pour_X9_hasRoom : GoodIn wsX11_pour (wsV RX11 259 RX9 yX9_hasRoom wsX9_hasRoom) := goodIn_app (goodIn_of _ (by decide +kernel)) ggX11_pour_X9_hasRoom
set_option maxRecDepth 20000 in
theorem ggX11_pour_X9_loadOne : GoodIn wsX11_pour wsX9_loadOne := goodIn_r _ [57, 58, 59, 60, 61, 51, 62, 53, 63, 64, 100, 101, 102, 103, 104, 105, 106, 107, 108, 109, 110, 111, 112] (by decide +kernel) (by decide +kernel)
set_option maxRecDepth 20000 in
theorem gX11_pour_X9_loadOne : GoodIn wsX11_pour (wsV RX11 264 RX9 yX9_loadOne wsX9_loadOne) := goodIn_app (goodIn_of _ (by decide +kernel)) ggX11_pour_X9_loadOne
theorem dX11_pour_0 : decode cX11_pour 0 = .ok (.aload_n 0, 1) := by decide +kernel
theorem dX11_pour_1 : decode cX11_pour 1 = .ok (.iload_n 2, 1) := by decide +kernel
theorem dX11_pour_2 : decode cX11_pour 2 = .ok (.invokevirtual 109, 3) := by decide +kernel
theorem dX11_pour_5 : decode cX11_pour 5 = .ok (.aload_n 0, 1) := by decide +kernel
theorem dX11_pour_6 : decode cX11_pour 6 = .ok (.iload_n 1, 1) := by decide +kernel
theorem dX11_pour_7 : decode cX11_pour 7 = .ok (.invokevirtual 402, 3) := by decide +kernel
theorem dX11_pour_10 : decode cX11_pour 10 = .ok (.astore_n 3, 1) := by decide +kernel
theorem dX11_pour_11 : decode cX11_pour 11 = .ok (.aload_n 3, 1) := by decide +kernel
theorem dX11_pour_12 : decode cX11_pour 12 = .ok (.aload_n 0, 1) := by decide +kernel
theorem dX11_pour_13 : decode cX11_pour 13 = .ok (.getfield 10, 3) := by decide +kernel
theorem dX11_pour_16 : decode cX11_pour 16 = .ok (.getfield 39, 3) := by decide +kernel
theorem dX11_pour_19 : decode cX11_pour 19 = .ok (.getfield 302, 3) := by decide +kernel
theorem dX11_pour_22 : decode cX11_pour 22 = .ok (.invokevirtual 421, 3) := by decide +kernel
theorem dX11_pour_25 : decode cX11_pour 25 = .ok (.invokestatic 97, 3) := by decide +kernel
theorem dX11_pour_28 : decode cX11_pour 28 = .ok (.aload_n 0, 1) := by decide +kernel
theorem dX11_pour_29 : decode cX11_pour 29 = .ok (.getfield 10, 3) := by decide +kernel
theorem dX11_pour_32 : decode cX11_pour 32 = .ok (.getfield 255, 3) := by decide +kernel
theorem dX11_pour_35 : decode cX11_pour 35 = .ok (.iload_n 2, 1) := by decide +kernel
theorem dX11_pour_36 : decode cX11_pour 36 = .ok (.aload_n 3, 1) := by decide +kernel
theorem dX11_pour_37 : decode cX11_pour 37 = .ok (.getfield 406, 3) := by decide +kernel
theorem dX11_pour_40 : decode cX11_pour 40 = .ok (.invokevirtual 259, 3) := by decide +kernel
theorem dX11_pour_43 : decode cX11_pour 43 = .ok (.ifCond .ne 5, 3) := by decide +kernel
theorem dX11_pour_46 : decode cX11_pour 46 = .ok (.iconst (-1), 1) := by decide +kernel
theorem dX11_pour_47 : decode cX11_pour 47 = .ok (.ireturn, 1) := by decide +kernel
theorem dX11_pour_48 : decode cX11_pour 48 = .ok (.iconst 0, 1) := by decide +kernel
theorem dX11_pour_49 : decode cX11_pour 49 = .ok (.istore 4, 2) := by decide +kernel
theorem dX11_pour_51 : decode cX11_pour 51 = .ok (.iload 4, 2) := by decide +kernel
theorem dX11_pour_53 : decode cX11_pour 53 = .ok (.aload_n 3, 1) := by decide +kernel
theorem dX11_pour_54 : decode cX11_pour 54 = .ok (.getfield 406, 3) := by decide +kernel
theorem dX11_pour_57 : decode cX11_pour 57 = .ok (.if_icmp .ge 28, 3) := by decide +kernel
theorem dX11_pour_60 : decode cX11_pour 60 = .ok (.aload_n 0, 1) := by decide +kernel
theorem dX11_pour_61 : decode cX11_pour 61 = .ok (.getfield 10, 3) := by decide +kernel
theorem dX11_pour_64 : decode cX11_pour 64 = .ok (.getfield 255, 3) := by decide +kernel
theorem dX11_pour_67 : decode cX11_pour 67 = .ok (.iload_n 2, 1) := by decide +kernel
theorem dX11_pour_68 : decode cX11_pour 68 = .ok (.aload_n 3, 1) := by decide +kernel
theorem dX11_pour_69 : decode cX11_pour 69 = .ok (.getfield 414, 3) := by decide +kernel
theorem dX11_pour_72 : decode cX11_pour 72 = .ok (.iload 4, 2) := by decide +kernel
theorem dX11_pour_74 : decode cX11_pour 74 = .ok (.laload, 1) := by decide +kernel
theorem dX11_pour_75 : decode cX11_pour 75 = .ok (.l2i, 1) := by decide +kernel
theorem dX11_pour_76 : decode cX11_pour 76 = .ok (.invokevirtual 264, 3) := by decide +kernel
theorem dX11_pour_79 : decode cX11_pour 79 = .ok (.iinc 4 1, 3) := by decide +kernel
theorem dX11_pour_82 : decode cX11_pour 82 = .ok (.goto (-31), 3) := by decide +kernel
theorem dX11_pour_85 : decode cX11_pour 85 = .ok (.aload_n 0, 1) := by decide +kernel
theorem dX11_pour_86 : decode cX11_pour 86 = .ok (.getfield 10, 3) := by decide +kernel
theorem dX11_pour_89 : decode cX11_pour 89 = .ok (.getfield 255, 3) := by decide +kernel
theorem dX11_pour_92 : decode cX11_pour 92 = .ok (.getfield 268, 3) := by decide +kernel
theorem dX11_pour_95 : decode cX11_pour 95 = .ok (.iload_n 2, 1) := by decide +kernel
theorem dX11_pour_96 : decode cX11_pour 96 = .ok (.iaload, 1) := by decide +kernel
theorem dX11_pour_97 : decode cX11_pour 97 = .ok (.ireturn, 1) := by decide +kernel
set_option maxRecDepth 20000 in
theorem ggX11_image_X11_within : GoodIn wsX11_image wsX11_within := goodIn_r _ [8] (by decide +kernel) (by decide +kernel)
set_option maxRecDepth 20000 in
theorem gX11_image_X11_within : GoodIn wsX11_image (va_wsS RX11 93 yX11_within wsX11_within) := goodIn_app (goodIn_of _ (by decide +kernel)) ggX11_image_X11_within
set_option maxRecDepth 20000 in
theorem ggX11_image_X11_needThere : GoodIn wsX11_image wsX11_needThere := goodIn_ca (goodIn_r _ [11, 12, 13] (by decide +kernel) (by decide +kernel)) (goodIn_sub (fun _ h => List.mem_cons_of_mem _ (List.mem_append_right _ h)) (by decide +kernel))
set_option maxRecDepth 20000 in
theorem gX11_image_X11_needThere : GoodIn wsX11_image (va_wsS RX11 115 yX11_needThere wsX11_needThere) := goodIn_app (goodIn_of _ (by decide +kernel)) ggX11_image_X11_needThere
set_option maxRecDepth 20000 in
theorem ggX11_image_X8_copyFrom : GoodIn wsX11_image wsX8_copyFrom := goodIn_r _ [18, 19, 20, 21, 22, 23, 24, 25, 26, 27, 28, 29, 30, 31, 32, 33, 34, 35, 36, 37, 38, 39, 40, 41, 42, 43, 44, 45, 46, 7, 47, 48, 49, 50, 51, 52, 53, 54, 55, 56, 57, 58, 59, 60, 61, 62, 63, 64, 65, 66, 67, 68, 69, 70, 71, 72, 73, 74, 75, 76, 77, 78, 79, 80, 81, 82, 83, 84, 95, 96, 97, 98, 99, 100, 101, 102, 103, 104, 105, 106, 107, 108, 109, 110, 111, 112, 113, 114, 115, 116, 117, 118, 119, 120, 121, 122, 123, 124, 125, 126, 127, 128, 129, 130, 131, 132, 133, 134, 135] (by decide +kernel) (by decide +kernel)
set_option maxRecDepth 20000 in
theorem gX11_image_X8_copyFrom : GoodIn wsX11_image (wsV RX11 424 RX8 yX8_copyFrom wsX8_copyFrom) := goodIn_app (goodIn_of _ (by decide +kernel)) ggX11_image_X8_copyFrom
theorem dX11_image_0 : decode cX11_image 0 = .ok (.iload_n 1, 1) := by decide +kernel
theorem dX11_image_1 : decode cX11_image 1 = .ok (.i2l, 1) := by decide +kernel
theorem dX11_image_2 : decode cX11_image 2 = .ok (.lconst 0, 1) := by decide +kernel
theorem dX11_image_3 : decode cX11_image 3 = .ok (.ldc2_w 113, 3) := by decide +kernel
theorem dX11_image_6 : decode cX11_image 6 = .ok (.invokestatic 93, 3) := by decide +kernel
theorem dX11_image_9 : decode cX11_image 9 = .ok (.invokestatic 115, 3) := by decide +kernel
theorem dX11_image_12 : decode cX11_image 12 = .ok (.aload_n 0, 1) := by decide +kernel
theorem dX11_image_13 : decode cX11_image 13 = .ok (.getfield 16, 3) := by decide +kernel
theorem dX11_image_16 : decode cX11_image 16 = .ok (.iload_n 1, 1) := by decide +kernel
theorem dX11_image_17 : decode cX11_image 17 = .ok (.aaload, 1) := by decide +kernel
theorem dX11_image_18 : decode cX11_image 18 = .ok (.aload_n 0, 1) := by decide +kernel
theorem dX11_image_19 : decode cX11_image 19 = .ok (.getfield 10, 3) := by decide +kernel
theorem dX11_image_22 : decode cX11_image 22 = .ok (.invokevirtual 424, 3) := by decide +kernel
theorem dX11_image_25 : decode cX11_image 25 = .ok (.aload_n 0, 1) := by decide +kernel
theorem dX11_image_26 : decode cX11_image 26 = .ok (.getfield 20, 3) := by decide +kernel
theorem dX11_image_29 : decode cX11_image 29 = .ok (.iload_n 1, 1) := by decide +kernel
theorem dX11_image_30 : decode cX11_image 30 = .ok (.iconst 1, 1) := by decide +kernel
theorem dX11_image_31 : decode cX11_image 31 = .ok (.bastore, 1) := by decide +kernel
theorem dX11_image_32 : decode cX11_image 32 = .ok (.return_, 1) := by decide +kernel
set_option maxRecDepth 20000 in
theorem ggX11_restore_X11_within : GoodIn wsX11_restore wsX11_within := goodIn_r _ [10] (by decide +kernel) (by decide +kernel)
set_option maxRecDepth 20000 in
theorem gX11_restore_X11_within : GoodIn wsX11_restore (va_wsS RX11 93 yX11_within wsX11_within) := goodIn_app (goodIn_of _ (by decide +kernel)) ggX11_restore_X11_within
set_option maxRecDepth 20000 in
theorem ggX11_restore_X11_needThere : GoodIn wsX11_restore wsX11_needThere := goodIn_ca (goodIn_r _ [13, 14, 15] (by decide +kernel) (by decide +kernel)) (goodIn_sub (fun _ h => List.mem_cons_of_mem _ (List.mem_append_right _ h)) (by decide +kernel))
set_option maxRecDepth 20000 in
theorem gX11_restore_X11_needThere : GoodIn wsX11_restore (va_wsS RX11 115 yX11_needThere wsX11_needThere) := goodIn_app (goodIn_of _ (by decide +kernel)) ggX11_restore_X11_needThere
set_option maxRecDepth 20000 in
theorem ggX11_restore_X8_copyFrom : GoodIn wsX11_restore wsX8_copyFrom := goodIn_r _ [20, 21, 22, 23, 24, 25, 26, 27, 28, 29, 30, 31, 32, 33, 34, 35, 36, 37, 38, 39, 40, 41, 42, 43, 44, 45, 46, 47, 48, 9, 49, 50, 51, 52, 53, 54, 55, 56, 57, 58, 59, 60, 61, 62, 63, 64, 65, 66, 67, 68, 69, 70, 71, 72, 73, 74, 75, 76, 77, 78, 79, 80, 81, 82, 83, 84, 85, 86, 97, 98, 99, 100, 101, 102, 103, 104, 105, 106, 107, 108, 109, 110, 111, 112, 113, 114, 115, 116, 117, 118, 119, 120, 121, 122, 123, 124, 125, 126, 127, 128, 129, 130, 131, 132, 133, 134, 135, 136, 137] (by decide +kernel) (by decide +kernel)
set_option maxRecDepth 20000 in
theorem gX11_restore_X8_copyFrom : GoodIn wsX11_restore (wsV RX11 424 RX8 yX8_copyFrom wsX8_copyFrom) := goodIn_app (goodIn_of _ (by decide +kernel)) ggX11_restore_X8_copyFrom
theorem dX11_restore_0 : decode cX11_restore 0 = .ok (.iload_n 1, 1) := by decide +kernel
theorem dX11_restore_1 : decode cX11_restore 1 = .ok (.i2l, 1) := by decide +kernel
theorem dX11_restore_2 : decode cX11_restore 2 = .ok (.lconst 0, 1) := by decide +kernel
theorem dX11_restore_3 : decode cX11_restore 3 = .ok (.ldc2_w 113, 3) := by decide +kernel
theorem dX11_restore_6 : decode cX11_restore 6 = .ok (.invokestatic 93, 3) := by decide +kernel
theorem dX11_restore_9 : decode cX11_restore 9 = .ok (.invokestatic 115, 3) := by decide +kernel
theorem dX11_restore_12 : decode cX11_restore 12 = .ok (.aload_n 0, 1) := by decide +kernel
theorem dX11_restore_13 : decode cX11_restore 13 = .ok (.getfield 20, 3) := by decide +kernel
theorem dX11_restore_16 : decode cX11_restore 16 = .ok (.iload_n 1, 1) := by decide +kernel
theorem dX11_restore_17 : decode cX11_restore 17 = .ok (.baload, 1) := by decide +kernel
theorem dX11_restore_18 : decode cX11_restore 18 = .ok (.ifCond .ne 14, 3) := by decide +kernel
theorem dX11_restore_21 : decode cX11_restore 21 = .ok (.new 426, 3) := by decide +kernel
theorem dX11_restore_24 : decode cX11_restore 24 = .ok (.dup, 1) := by decide +kernel
theorem dX11_restore_25 : decode cX11_restore 25 = .ok (.ldc_w 428, 3) := by decide +kernel
theorem dX11_restore_28 : decode cX11_restore 28 = .ok (.invokespecial 430, 3) := by decide +kernel
theorem dX11_restore_31 : decode cX11_restore 31 = .ok (.athrow, 1) := by decide +kernel
theorem dX11_restore_32 : decode cX11_restore 32 = .ok (.aload_n 0, 1) := by decide +kernel
theorem dX11_restore_33 : decode cX11_restore 33 = .ok (.getfield 10, 3) := by decide +kernel
theorem dX11_restore_36 : decode cX11_restore 36 = .ok (.aload_n 0, 1) := by decide +kernel
theorem dX11_restore_37 : decode cX11_restore 37 = .ok (.getfield 16, 3) := by decide +kernel
theorem dX11_restore_40 : decode cX11_restore 40 = .ok (.iload_n 1, 1) := by decide +kernel
theorem dX11_restore_41 : decode cX11_restore 41 = .ok (.aaload, 1) := by decide +kernel
theorem dX11_restore_42 : decode cX11_restore 42 = .ok (.invokevirtual 424, 3) := by decide +kernel
theorem dX11_restore_45 : decode cX11_restore 45 = .ok (.return_, 1) := by decide +kernel
theorem dX11_count_0 : decode cX11_count 0 = .ok (.iload_n 1, 1) := by decide +kernel
theorem dX11_count_1 : decode cX11_count 1 = .ok (.tableswitch 123 0 7 #[47, 58, 69, 77, 88, 96, 104, 112], 47) := by decide +kernel
theorem dX11_count_48 : decode cX11_count 48 = .ok (.aload_n 0, 1) := by decide +kernel
theorem dX11_count_49 : decode cX11_count 49 = .ok (.getfield 10, 3) := by decide +kernel
theorem dX11_count_52 : decode cX11_count 52 = .ok (.getfield 39, 3) := by decide +kernel
theorem dX11_count_55 : decode cX11_count 55 = .ok (.getfield 302, 3) := by decide +kernel
theorem dX11_count_58 : decode cX11_count 58 = .ok (.ireturn, 1) := by decide +kernel
theorem dX11_count_59 : decode cX11_count 59 = .ok (.aload_n 0, 1) := by decide +kernel
theorem dX11_count_60 : decode cX11_count 60 = .ok (.getfield 10, 3) := by decide +kernel
theorem dX11_count_63 : decode cX11_count 63 = .ok (.getfield 43, 3) := by decide +kernel
theorem dX11_count_66 : decode cX11_count 66 = .ok (.getfield 182, 3) := by decide +kernel
theorem dX11_count_69 : decode cX11_count 69 = .ok (.ireturn, 1) := by decide +kernel
theorem dX11_count_70 : decode cX11_count 70 = .ok (.aload_n 0, 1) := by decide +kernel
theorem dX11_count_71 : decode cX11_count 71 = .ok (.getfield 10, 3) := by decide +kernel
theorem dX11_count_74 : decode cX11_count 74 = .ok (.getfield 431, 3) := by decide +kernel
theorem dX11_count_77 : decode cX11_count 77 = .ok (.ireturn, 1) := by decide +kernel
theorem dX11_count_78 : decode cX11_count 78 = .ok (.aload_n 0, 1) := by decide +kernel
theorem dX11_count_79 : decode cX11_count 79 = .ok (.getfield 10, 3) := by decide +kernel
theorem dX11_count_82 : decode cX11_count 82 = .ok (.getfield 255, 3) := by decide +kernel
theorem dX11_count_85 : decode cX11_count 85 = .ok (.getfield 278, 3) := by decide +kernel
theorem dX11_count_88 : decode cX11_count 88 = .ok (.ireturn, 1) := by decide +kernel
theorem dX11_count_89 : decode cX11_count 89 = .ok (.aload_n 0, 1) := by decide +kernel
theorem dX11_count_90 : decode cX11_count 90 = .ok (.getfield 10, 3) := by decide +kernel
theorem dX11_count_93 : decode cX11_count 93 = .ok (.getfield 377, 3) := by decide +kernel
theorem dX11_count_96 : decode cX11_count 96 = .ok (.ireturn, 1) := by decide +kernel
theorem dX11_count_97 : decode cX11_count 97 = .ok (.aload_n 0, 1) := by decide +kernel
theorem dX11_count_98 : decode cX11_count 98 = .ok (.getfield 10, 3) := by decide +kernel
theorem dX11_count_101 : decode cX11_count 101 = .ok (.getfield 390, 3) := by decide +kernel
theorem dX11_count_104 : decode cX11_count 104 = .ok (.ireturn, 1) := by decide +kernel
theorem dX11_count_105 : decode cX11_count 105 = .ok (.aload_n 0, 1) := by decide +kernel
theorem dX11_count_106 : decode cX11_count 106 = .ok (.getfield 33, 3) := by decide +kernel
theorem dX11_count_109 : decode cX11_count 109 = .ok (.getfield 163, 3) := by decide +kernel
theorem dX11_count_112 : decode cX11_count 112 = .ok (.ireturn, 1) := by decide +kernel
theorem dX11_count_113 : decode cX11_count 113 = .ok (.aload_n 0, 1) := by decide +kernel
theorem dX11_count_114 : decode cX11_count 114 = .ok (.getfield 10, 3) := by decide +kernel
theorem dX11_count_117 : decode cX11_count 117 = .ok (.getfield 255, 3) := by decide +kernel
theorem dX11_count_120 : decode cX11_count 120 = .ok (.getfield 299, 3) := by decide +kernel
theorem dX11_count_123 : decode cX11_count 123 = .ok (.ireturn, 1) := by decide +kernel
theorem dX11_count_124 : decode cX11_count 124 = .ok (.iconst (-1), 1) := by decide +kernel
theorem dX11_count_125 : decode cX11_count 125 = .ok (.ireturn, 1) := by decide +kernel
theorem dX11_within_0 : decode cX11_within 0 = .ok (.lload_n 0, 1) := by decide +kernel
theorem dX11_within_1 : decode cX11_within 1 = .ok (.lload_n 2, 1) := by decide +kernel
theorem dX11_within_2 : decode cX11_within 2 = .ok (.lcmp, 1) := by decide +kernel
theorem dX11_within_3 : decode cX11_within 3 = .ok (.ifCond .lt 14, 3) := by decide +kernel
theorem dX11_within_6 : decode cX11_within 6 = .ok (.lload_n 0, 1) := by decide +kernel
theorem dX11_within_7 : decode cX11_within 7 = .ok (.lload 4, 2) := by decide +kernel
theorem dX11_within_9 : decode cX11_within 9 = .ok (.lcmp, 1) := by decide +kernel
theorem dX11_within_10 : decode cX11_within 10 = .ok (.ifCond .gt 7, 3) := by decide +kernel
theorem dX11_within_13 : decode cX11_within 13 = .ok (.iconst 1, 1) := by decide +kernel
theorem dX11_within_14 : decode cX11_within 14 = .ok (.goto 4, 3) := by decide +kernel
theorem dX11_within_17 : decode cX11_within 17 = .ok (.iconst 0, 1) := by decide +kernel
theorem dX11_within_18 : decode cX11_within 18 = .ok (.ireturn, 1) := by decide +kernel
theorem dX11_need_0 : decode cX11_need 0 = .ok (.iload_n 0, 1) := by decide +kernel
theorem dX11_need_1 : decode cX11_need 1 = .ok (.ifCond .ne 14, 3) := by decide +kernel
theorem dX11_need_4 : decode cX11_need 4 = .ok (.new 434, 3) := by decide +kernel
theorem dX11_need_7 : decode cX11_need 7 = .ok (.dup, 1) := by decide +kernel
theorem dX11_need_8 : decode cX11_need 8 = .ok (.ldc_w 436, 3) := by decide +kernel
theorem dX11_need_11 : decode cX11_need 11 = .ok (.invokespecial 438, 3) := by decide +kernel
theorem dX11_need_14 : decode cX11_need 14 = .ok (.athrow, 1) := by decide +kernel
theorem dX11_need_15 : decode cX11_need 15 = .ok (.return_, 1) := by decide +kernel
theorem dX11_needThere_0 : decode cX11_needThere 0 = .ok (.iload_n 0, 1) := by decide +kernel
theorem dX11_needThere_1 : decode cX11_needThere 1 = .ok (.ifCond .ne 14, 3) := by decide +kernel
theorem dX11_needThere_4 : decode cX11_needThere 4 = .ok (.new 439, 3) := by decide +kernel
theorem dX11_needThere_7 : decode cX11_needThere 7 = .ok (.dup, 1) := by decide +kernel
theorem dX11_needThere_8 : decode cX11_needThere 8 = .ok (.ldc_w 441, 3) := by decide +kernel
theorem dX11_needThere_11 : decode cX11_needThere 11 = .ok (.invokespecial 443, 3) := by decide +kernel
theorem dX11_needThere_14 : decode cX11_needThere 14 = .ok (.athrow, 1) := by decide +kernel
theorem dX11_needThere_15 : decode cX11_needThere 15 = .ok (.return_, 1) := by decide +kernel
set_option maxRecDepth 20000 in
theorem ggX11_needSort_X7_has : GoodIn wsX11_needSort wsX7_has := goodIn_r _ [7, 8, 38, 39, 40, 41, 42, 43, 44, 45, 46] (by decide +kernel) (by decide +kernel)
set_option maxRecDepth 20000 in
theorem gX11_needSort_X7_has : GoodIn wsX11_needSort (wsV RX11 203 RX7 yX7_has wsX7_has) := goodIn_app (goodIn_of _ (by decide +kernel)) ggX11_needSort_X7_has
set_option maxRecDepth 20000 in
theorem ggX11_needSort_X11_needThere : GoodIn wsX11_needSort wsX11_needThere := goodIn_ca (goodIn_r _ [12, 13, 14] (by decide +kernel) (by decide +kernel)) (goodIn_sub (fun _ h => List.mem_cons_of_mem _ (List.mem_append_right _ h)) (by decide +kernel))
set_option maxRecDepth 20000 in
theorem gX11_needSort_X11_needThere : GoodIn wsX11_needSort (va_wsS RX11 115 yX11_needThere wsX11_needThere) := goodIn_app (goodIn_of _ (by decide +kernel)) ggX11_needSort_X11_needThere
theorem dX11_needSort_0 : decode cX11_needSort 0 = .ok (.aload_n 0, 1) := by decide +kernel
theorem dX11_needSort_1 : decode cX11_needSort 1 = .ok (.getfield 10, 3) := by decide +kernel
theorem dX11_needSort_4 : decode cX11_needSort 4 = .ok (.getfield 39, 3) := by decide +kernel
theorem dX11_needSort_7 : decode cX11_needSort 7 = .ok (.iload_n 1, 1) := by decide +kernel
theorem dX11_needSort_8 : decode cX11_needSort 8 = .ok (.invokevirtual 203, 3) := by decide +kernel
theorem dX11_needSort_11 : decode cX11_needSort 11 = .ok (.invokestatic 115, 3) := by decide +kernel
theorem dX11_needSort_14 : decode cX11_needSort 14 = .ok (.return_, 1) := by decide +kernel
set_option maxRecDepth 20000 in
theorem ggX11_needGate_X11_within : GoodIn wsX11_needGate wsX11_within := goodIn_r _ [7] (by decide +kernel) (by decide +kernel)
set_option maxRecDepth 20000 in
theorem gX11_needGate_X11_within : GoodIn wsX11_needGate (va_wsS RX11 93 yX11_within wsX11_within) := goodIn_app (goodIn_of _ (by decide +kernel)) ggX11_needGate_X11_within
set_option maxRecDepth 20000 in
theorem ggX11_needGate_X11_needThere : GoodIn wsX11_needGate wsX11_needThere := goodIn_ca (goodIn_r _ [10, 11, 12] (by decide +kernel) (by decide +kernel)) (goodIn_sub (fun _ h => List.mem_cons_of_mem _ (List.mem_append_right _ h)) (by decide +kernel))
set_option maxRecDepth 20000 in
theorem gX11_needGate_X11_needThere : GoodIn wsX11_needGate (va_wsS RX11 115 yX11_needThere wsX11_needThere) := goodIn_app (goodIn_of _ (by decide +kernel)) ggX11_needGate_X11_needThere
theorem dX11_needGate_0 : decode cX11_needGate 0 = .ok (.iload_n 1, 1) := by decide +kernel
theorem dX11_needGate_1 : decode cX11_needGate 1 = .ok (.i2l, 1) := by decide +kernel
theorem dX11_needGate_2 : decode cX11_needGate 2 = .ok (.lconst 0, 1) := by decide +kernel
theorem dX11_needGate_3 : decode cX11_needGate 3 = .ok (.aload_n 0, 1) := by decide +kernel
theorem dX11_needGate_4 : decode cX11_needGate 4 = .ok (.getfield 10, 3) := by decide +kernel
theorem dX11_needGate_7 : decode cX11_needGate 7 = .ok (.getfield 43, 3) := by decide +kernel
theorem dX11_needGate_10 : decode cX11_needGate 10 = .ok (.getfield 182, 3) := by decide +kernel
theorem dX11_needGate_13 : decode cX11_needGate 13 = .ok (.iconst 1, 1) := by decide +kernel
theorem dX11_needGate_14 : decode cX11_needGate 14 = .ok (.isub, 1) := by decide +kernel
theorem dX11_needGate_15 : decode cX11_needGate 15 = .ok (.i2l, 1) := by decide +kernel
theorem dX11_needGate_16 : decode cX11_needGate 16 = .ok (.invokestatic 93, 3) := by decide +kernel
theorem dX11_needGate_19 : decode cX11_needGate 19 = .ok (.invokestatic 115, 3) := by decide +kernel
theorem dX11_needGate_22 : decode cX11_needGate 22 = .ok (.return_, 1) := by decide +kernel
set_option maxRecDepth 20000 in
theorem ggX11_needGood_X11_within : GoodIn wsX11_needGood wsX11_within := goodIn_r _ [6] (by decide +kernel) (by decide +kernel)
set_option maxRecDepth 20000 in
theorem gX11_needGood_X11_within : GoodIn wsX11_needGood (va_wsS RX11 93 yX11_within wsX11_within) := goodIn_app (goodIn_of _ (by decide +kernel)) ggX11_needGood_X11_within
set_option maxRecDepth 20000 in
theorem ggX11_needGood_X11_needThere : GoodIn wsX11_needGood wsX11_needThere := goodIn_ca (goodIn_r _ [9, 10, 11] (by decide +kernel) (by decide +kernel)) (goodIn_sub (fun _ h => List.mem_cons_of_mem _ (List.mem_append_right _ h)) (by decide +kernel))
set_option maxRecDepth 20000 in
theorem gX11_needGood_X11_needThere : GoodIn wsX11_needGood (va_wsS RX11 115 yX11_needThere wsX11_needThere) := goodIn_app (goodIn_of _ (by decide +kernel)) ggX11_needGood_X11_needThere
theorem dX11_needGood_0 : decode cX11_needGood 0 = .ok (.iload_n 1, 1) := by decide +kernel
theorem dX11_needGood_1 : decode cX11_needGood 1 = .ok (.i2l, 1) := by decide +kernel
theorem dX11_needGood_2 : decode cX11_needGood 2 = .ok (.lconst 0, 1) := by decide +kernel
theorem dX11_needGood_3 : decode cX11_needGood 3 = .ok (.aload_n 0, 1) := by decide +kernel
theorem dX11_needGood_4 : decode cX11_needGood 4 = .ok (.getfield 10, 3) := by decide +kernel
theorem dX11_needGood_7 : decode cX11_needGood 7 = .ok (.getfield 431, 3) := by decide +kernel
theorem dX11_needGood_10 : decode cX11_needGood 10 = .ok (.iconst 1, 1) := by decide +kernel
theorem dX11_needGood_11 : decode cX11_needGood 11 = .ok (.isub, 1) := by decide +kernel
theorem dX11_needGood_12 : decode cX11_needGood 12 = .ok (.i2l, 1) := by decide +kernel
theorem dX11_needGood_13 : decode cX11_needGood 13 = .ok (.invokestatic 93, 3) := by decide +kernel
theorem dX11_needGood_16 : decode cX11_needGood 16 = .ok (.invokestatic 115, 3) := by decide +kernel
theorem dX11_needGood_19 : decode cX11_needGood 19 = .ok (.return_, 1) := by decide +kernel
set_option maxRecDepth 20000 in
theorem ggX11_needMove_X11_needGate : GoodIn wsX11_needMove wsX11_needGate := goodIn_ca (goodIn_r _ [7, 8, 9, 10, 11, 12, 6, 13, 14, 15, 16, 17, 18, 24, 25, 26, 27, 28, 29, 30, 31, 32, 33, 34, 35, 36, 37, 38, 39, 40, 41, 42, 43, 44, 45, 46, 47, 48, 49, 50, 51, 52] (by decide +kernel) (by decide +kernel)) (goodIn_sub (fun _ h => List.mem_cons_of_mem _ (List.mem_append_left _ (List.mem_append_right _ h))) (by decide +kernel))
set_option maxRecDepth 20000 in
theorem gX11_needMove_X11_needGate : GoodIn wsX11_needMove (wsV RX11 188 RX11 yX11_needGate wsX11_needGate) := goodIn_app (goodIn_of _ (by decide +kernel)) ggX11_needMove_X11_needGate
set_option maxRecDepth 20000 in
theorem ggX11_needMove_X11_within : GoodIn wsX11_needMove wsX11_within := goodIn_r _ [13] (by decide +kernel) (by decide +kernel)
set_option maxRecDepth 20000 in
theorem gX11_needMove_X11_within : GoodIn wsX11_needMove (va_wsS RX11 93 yX11_within wsX11_within) := goodIn_app (goodIn_of _ (by decide +kernel)) ggX11_needMove_X11_within
set_option maxRecDepth 20000 in
theorem ggX11_needMove_X11_need : GoodIn wsX11_needMove wsX11_need := goodIn_ca (goodIn_r _ [21, 22, 23] (by decide +kernel) (by decide +kernel)) (goodIn_sub (fun _ h => List.mem_cons_of_mem _ (List.mem_append_right _ h)) (by decide +kernel))
set_option maxRecDepth 20000 in
theorem gX11_needMove_X11_need : GoodIn wsX11_needMove (va_wsS RX11 97 yX11_need wsX11_need) := goodIn_app (goodIn_of _ (by decide +kernel)) ggX11_needMove_X11_need
theorem dX11_needMove_0 : decode cX11_needMove 0 = .ok (.aload_n 0, 1) := by decide +kernel
theorem dX11_needMove_1 : decode cX11_needMove 1 = .ok (.iload_n 1, 1) := by decide +kernel
theorem dX11_needMove_2 : decode cX11_needMove 2 = .ok (.invokevirtual 188, 3) := by decide +kernel
theorem dX11_needMove_5 : decode cX11_needMove 5 = .ok (.iload_n 2, 1) := by decide +kernel
theorem dX11_needMove_6 : decode cX11_needMove 6 = .ok (.i2l, 1) := by decide +kernel
theorem dX11_needMove_7 : decode cX11_needMove 7 = .ok (.ldc2_w 444, 3) := by decide +kernel
theorem dX11_needMove_10 : decode cX11_needMove 10 = .ok (.ldc2_w 118, 3) := by decide +kernel
theorem dX11_needMove_13 : decode cX11_needMove 13 = .ok (.invokestatic 93, 3) := by decide +kernel
theorem dX11_needMove_16 : decode cX11_needMove 16 = .ok (.invokestatic 97, 3) := by decide +kernel
theorem dX11_needMove_19 : decode cX11_needMove 19 = .ok (.iload_n 3, 1) := by decide +kernel
theorem dX11_needMove_20 : decode cX11_needMove 20 = .ok (.i2l, 1) := by decide +kernel
theorem dX11_needMove_21 : decode cX11_needMove 21 = .ok (.ldc2_w 444, 3) := by decide +kernel
theorem dX11_needMove_24 : decode cX11_needMove 24 = .ok (.ldc2_w 118, 3) := by decide +kernel
theorem dX11_needMove_27 : decode cX11_needMove 27 = .ok (.invokestatic 93, 3) := by decide +kernel
theorem dX11_needMove_30 : decode cX11_needMove 30 = .ok (.invokestatic 97, 3) := by decide +kernel
theorem dX11_needMove_33 : decode cX11_needMove 33 = .ok (.return_, 1) := by decide +kernel
set_option maxRecDepth 20000 in
theorem ggX11_trayAt_X11_within : GoodIn wsX11_trayAt wsX11_within := goodIn_r _ [9] (by decide +kernel) (by decide +kernel)
set_option maxRecDepth 20000 in
theorem gX11_trayAt_X11_within : GoodIn wsX11_trayAt (va_wsS RX11 93 yX11_within wsX11_within) := goodIn_app (goodIn_of _ (by decide +kernel)) ggX11_trayAt_X11_within
set_option maxRecDepth 20000 in
theorem ggX11_trayAt_X11_needThere : GoodIn wsX11_trayAt wsX11_needThere := goodIn_ca (goodIn_r _ [12, 13, 14] (by decide +kernel) (by decide +kernel)) (goodIn_sub (fun _ h => List.mem_cons_of_mem _ (List.mem_append_right _ h)) (by decide +kernel))
set_option maxRecDepth 20000 in
theorem gX11_trayAt_X11_needThere : GoodIn wsX11_trayAt (va_wsS RX11 115 yX11_needThere wsX11_needThere) := goodIn_app (goodIn_of _ (by decide +kernel)) ggX11_trayAt_X11_needThere
theorem dX11_trayAt_0 : decode cX11_trayAt 0 = .ok (.iload_n 1, 1) := by decide +kernel
theorem dX11_trayAt_1 : decode cX11_trayAt 1 = .ok (.i2l, 1) := by decide +kernel
theorem dX11_trayAt_2 : decode cX11_trayAt 2 = .ok (.lconst 0, 1) := by decide +kernel
theorem dX11_trayAt_3 : decode cX11_trayAt 3 = .ok (.ldc2_w 141, 3) := by decide +kernel
theorem dX11_trayAt_6 : decode cX11_trayAt 6 = .ok (.invokestatic 93, 3) := by decide +kernel
theorem dX11_trayAt_9 : decode cX11_trayAt 9 = .ok (.invokestatic 115, 3) := by decide +kernel
theorem dX11_trayAt_12 : decode cX11_trayAt 12 = .ok (.aload_n 0, 1) := by decide +kernel
theorem dX11_trayAt_13 : decode cX11_trayAt 13 = .ok (.getfield 26, 3) := by decide +kernel
theorem dX11_trayAt_16 : decode cX11_trayAt 16 = .ok (.iload_n 1, 1) := by decide +kernel
theorem dX11_trayAt_17 : decode cX11_trayAt 17 = .ok (.aaload, 1) := by decide +kernel
theorem dX11_trayAt_18 : decode cX11_trayAt 18 = .ok (.getfield 446, 3) := by decide +kernel
theorem dX11_trayAt_21 : decode cX11_trayAt 21 = .ok (.iconst (-1), 1) := by decide +kernel
theorem dX11_trayAt_22 : decode cX11_trayAt 22 = .ok (.if_icmp .ne 14, 3) := by decide +kernel
theorem dX11_trayAt_25 : decode cX11_trayAt 25 = .ok (.new 426, 3) := by decide +kernel
theorem dX11_trayAt_28 : decode cX11_trayAt 28 = .ok (.dup, 1) := by decide +kernel
theorem dX11_trayAt_29 : decode cX11_trayAt 29 = .ok (.ldc_w 449, 3) := by decide +kernel
theorem dX11_trayAt_32 : decode cX11_trayAt 32 = .ok (.invokespecial 430, 3) := by decide +kernel
theorem dX11_trayAt_35 : decode cX11_trayAt 35 = .ok (.athrow, 1) := by decide +kernel
theorem dX11_trayAt_36 : decode cX11_trayAt 36 = .ok (.aload_n 0, 1) := by decide +kernel
theorem dX11_trayAt_37 : decode cX11_trayAt 37 = .ok (.getfield 26, 3) := by decide +kernel
theorem dX11_trayAt_40 : decode cX11_trayAt 40 = .ok (.iload_n 1, 1) := by decide +kernel
theorem dX11_trayAt_41 : decode cX11_trayAt 41 = .ok (.aaload, 1) := by decide +kernel
theorem dX11_trayAt_42 : decode cX11_trayAt 42 = .ok (.areturn, 1) := by decide +kernel
theorem dX11_swap_0 : decode cX11_swap 0 = .ok (.aload_n 0, 1) := by decide +kernel
theorem dX11_swap_1 : decode cX11_swap 1 = .ok (.iload_n 1, 1) := by decide +kernel
theorem dX11_swap_2 : decode cX11_swap 2 = .ok (.iaload, 1) := by decide +kernel
theorem dX11_swap_3 : decode cX11_swap 3 = .ok (.istore_n 3, 1) := by decide +kernel
theorem dX11_swap_4 : decode cX11_swap 4 = .ok (.aload_n 0, 1) := by decide +kernel
theorem dX11_swap_5 : decode cX11_swap 5 = .ok (.iload_n 1, 1) := by decide +kernel
theorem dX11_swap_6 : decode cX11_swap 6 = .ok (.iload_n 2, 1) := by decide +kernel
theorem dX11_swap_7 : decode cX11_swap 7 = .ok (.iastore, 1) := by decide +kernel
theorem dX11_swap_8 : decode cX11_swap 8 = .ok (.iload_n 3, 1) := by decide +kernel
theorem dX11_swap_9 : decode cX11_swap 9 = .ok (.ireturn, 1) := by decide +kernel
theorem dX11_copyRow_0 : decode cX11_copyRow 0 = .ok (.aload_n 0, 1) := by decide +kernel
theorem dX11_copyRow_1 : decode cX11_copyRow 1 = .ok (.iconst 0, 1) := by decide +kernel
theorem dX11_copyRow_2 : decode cX11_copyRow 2 = .ok (.aload_n 1, 1) := by decide +kernel
theorem dX11_copyRow_3 : decode cX11_copyRow 3 = .ok (.iconst 0, 1) := by decide +kernel
theorem dX11_copyRow_4 : decode cX11_copyRow 4 = .ok (.aload_n 0, 1) := by decide +kernel
theorem dX11_copyRow_5 : decode cX11_copyRow 5 = .ok (.arraylength, 1) := by decide +kernel
theorem dX11_copyRow_6 : decode cX11_copyRow 6 = .ok (.aload_n 1, 1) := by decide +kernel
theorem dX11_copyRow_7 : decode cX11_copyRow 7 = .ok (.arraylength, 1) := by decide +kernel
theorem dX11_copyRow_8 : decode cX11_copyRow 8 = .ok (.invokestatic 451, 3) := by decide +kernel
theorem dX11_copyRow_11 : decode cX11_copyRow 11 = .ok (.invokestatic 456, 3) := by decide +kernel
theorem dX11_copyRow_14 : decode cX11_copyRow 14 = .ok (.return_, 1) := by decide +kernel
